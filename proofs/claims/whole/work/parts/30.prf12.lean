set_option maxHeartbeats 4000000 in
set_option maxRecDepth 100000 in
theorem C_M_readPart (l : Launch) (hl0 : l.stackTraces = false) (G : GG) (m0 : Mem) (v : Bool) (m' : Mem) (hF : F_M_readPart m0 = some (v, m')) : Ct l G mr0 N0 yX11_readPart cX11_readPart 2 (some .boolean) 10 [.ref (G.2.1 + 78)] m0 (some (.int (b2i v))) m' := by
  refine Ct_of hl0 (by decide) (Nat.le_of_ble_eq_true rfl) ?_
  intro p e s mid args below meth c ls C hrt hl hR
  have hx := C.1.1
  have hb := C.1.2.1
  have hl : lv_has ls 2 [(0, .ref (G.2.1 + 78))] := hl
  unfold F_M_readPart at hF
  refine lv_aload_n hx hb (dk DX11_readPart 0 rfl) rfl (lv_at hl 0 rfl) ?_
  obtain ⟨uq3, mq1, hzq2, hF⟩ := bnd_ex hF
  refine r_callVv (As := []) (rest := []) C hR (C_M_letters l hl0 G m0 _ _ hzq2) (by decide) (by decide) ob78 rfl wX11_99 rfl rfl (Nat.le_of_ble_eq_true rfl) hl.1 ⟨Nat.zero_le _, Nat.zero_le _⟩ (dk DX11_readPart 1 rfl) (fun H locs hR => ?_)
  refine lv_aload_n hx hb (dk DX11_readPart 2 rfl) rfl (lv_at hl 0 rfl) ?_
  refine gX11_74 C hR ob78 (dk DX11_readPart 3 rfl) ?_
  refine lv_aload_n hx hb (dk DX11_readPart 4 rfl) rfl (lv_at hl 0 rfl) ?_
  refine gX11_84 C hR ob78 (dk DX11_readPart 5 rfl) ?_
  obtain ⟨k120_5, ek120_5, hF⟩ := lt_ex hF
  have J120 : ∀ (xq5 : Int32) (mq4 : Mem) (H : Heap) (locs : List Loc) (ls : Array Slot), lv_has ls 2 [(1, .int xq5)] → Rp G mr0 N0 mq4 s H locs → k120_5 xq5 mq4 = some (v, m') → W p l e (rmD 10) s mid args below meth c H locs 0 0 (MQ below (QR G mr0 N0 (some (.int (b2i v))) m') args s 0 0 (fun q => G.2.1 ≤ q)) (F0 mid 120 ls []) := by
    intro xq5 mq4 H locs ls hl hR hF
    rw [ek120_5] at hF
    refine lv_iload_n hx hb (dk DX11_readPart 59 rfl) rfl (lv_at hl 0 rfl) ?_
    refine lv_if_lt (tgt := 128) hx hb (dk DX11_readPart 60 rfl) (by decide) (fun c121 => ?_) (fun c121 => ?_)
    · have hF := if_t c121 hF
      refine lv_iconst (v := (0 : Int32)) hx hb (dk DX11_readPart 63 rfl) (by decide) ?_
      cases hF
      exact r_zret C hrt hR (dk DX11_readPart 64 rfl)
    · have hF := if_f c121 hF
      refine lv_iconst (v := (1 : Int32)) hx hb (dk DX11_readPart 61 rfl) (by decide) ?_
      refine lv_goto (tgt := 129) hx hb (dk DX11_readPart 62 rfl) (by decide) ?_
      cases hF
      exact r_zret C hrt hR (dk DX11_readPart 64 rfl)
  refine lv_icmp_ne (tgt := 34) hx hb (dk DX11_readPart 6 rfl) (by decide) (fun c12 => ?_) (fun c12 => ?_)
  · have hF := if_f c12 hF
    refine lv_aload_n hx hb (dk DX11_readPart 17 rfl) rfl (lv_at hl 0 rfl) ?_
    refine r_lds C (strm_X11_170) (dk DX11_readPart 18 rfl) ?_
    obtain ⟨zq8, mq6, hzq7, hF⟩ := bnd_ex hF
    refine r_callVi (As := [.ref (G.2.2.2.2.2.2 ("session"))]) (rest := []) C hR (C_M_isWord l hl0 G ("session") mq1 txm_18 _ _ hzq7) (by decide) (by decide) ob78 rfl wX11_102 rfl rfl (Nat.le_of_ble_eq_true rfl) hl.1 ⟨Nat.zero_le _, Nat.zero_le _⟩ (dk DX11_readPart 19 rfl) (fun H locs hR => ?_)
    obtain ⟨k113_10, ek113_10, hF⟩ := lt_ex hF
    have J113 : ∀ (xq10 : Int32) (mq9 : Mem) (H : Heap) (locs : List Loc) (ls : Array Slot), lv_has ls 2 [(0, .ref (G.2.1 + 78))] → Rp G mr0 N0 mq9 s H locs → k113_10 xq10 mq9 = some (v, m') → W p l e (rmD 10) s mid args below meth c H locs 0 0 (MQ below (QR G mr0 N0 (some (.int (b2i v))) m') args s 0 0 (fun q => G.2.1 ≤ q)) (F0 mid 113 ls [.int xq10]) := by
      intro xq10 mq9 H locs ls hl hR hF
      rw [ek113_10] at hF
      refine lv_istore_n (lv' := [(1, .int xq10), (0, .ref (G.2.1 + 78))]) hx hb (dk DX11_readPart 54 rfl) rfl hl (by decide) rfl (fun ls hl => ?_)
      refine lv_aload_n hx hb (dk DX11_readPart 55 rfl) rfl (lv_at hl 1 rfl) ?_
      refine lv_iload_n hx hb (dk DX11_readPart 56 rfl) rfl (lv_at hl 0 rfl) ?_
      refine lv_iconst (v := (0 : Int32)) hx hb (dk DX11_readPart 57 rfl) (by decide) ?_
      obtain ⟨uq13, mq11, hzq12, hF⟩ := bnd_ex hF
      refine r_callVv (As := [.int xq10, .int (0 : Int32)]) (rest := []) C hR (C_M_emits l hl0 G xq10 (0 : Int32) mq9 _ _ hzq12) (by decide) (by decide) ob78 rfl wX11_166 rfl rfl (Nat.le_of_ble_eq_true rfl) hl.1 ⟨Nat.zero_le _, Nat.zero_le _⟩ (dk DX11_readPart 58 rfl) (fun H locs hR => ?_)
      exact J120 xq10 mq11 _ _ ls (lv_sub hl [0] rfl) hR hF
    refine z_ifeq (tgt := 47) hx hb (dk DX11_readPart 20 rfl) (by decide) (fun c40 => ?_) (fun c40 => ?_)
    · have hF := if_f c40 hF
      refine lv_aload_n hx hb (dk DX11_readPart 23 rfl) rfl (lv_at hl 0 rfl) ?_
      refine r_lds C (strm_X11_172) (dk DX11_readPart 24 rfl) ?_
      obtain ⟨zq16, mq14, hzq15, hF⟩ := bnd_ex hF
      refine r_callVi (As := [.ref (G.2.2.2.2.2.2 ("day"))]) (rest := []) C hR (C_M_isWord l hl0 G ("day") mq6 txm_19 _ _ hzq15) (by decide) (by decide) ob78 rfl wX11_102 rfl rfl (Nat.le_of_ble_eq_true rfl) hl.1 ⟨Nat.zero_le _, Nat.zero_le _⟩ (dk DX11_readPart 25 rfl) (fun H locs hR => ?_)
      refine z_ifeq (tgt := 60) hx hb (dk DX11_readPart 26 rfl) (by decide) (fun c53 => ?_) (fun c53 => ?_)
      · have hF := if_f c53 hF
        refine lv_aload_n hx hb (dk DX11_readPart 29 rfl) rfl (lv_at hl 0 rfl) ?_
        refine r_lds C (strm_X11_174) (dk DX11_readPart 30 rfl) ?_
        obtain ⟨zq19, mq17, hzq18, hF⟩ := bnd_ex hF
        refine r_callVi (As := [.ref (G.2.2.2.2.2.2 ("innings"))]) (rest := []) C hR (C_M_isWord l hl0 G ("innings") mq14 txm_20 _ _ hzq18) (by decide) (by decide) ob78 rfl wX11_102 rfl rfl (Nat.le_of_ble_eq_true rfl) hl.1 ⟨Nat.zero_le _, Nat.zero_le _⟩ (dk DX11_readPart 31 rfl) (fun H locs hR => ?_)
        refine z_ifeq (tgt := 73) hx hb (dk DX11_readPart 32 rfl) (by decide) (fun c66 => ?_) (fun c66 => ?_)
        · have hF := if_f c66 hF
          refine lv_aload_n hx hb (dk DX11_readPart 35 rfl) rfl (lv_at hl 0 rfl) ?_
          refine r_lds C (strm_X11_131) (dk DX11_readPart 36 rfl) ?_
          obtain ⟨zq22, mq20, hzq21, hF⟩ := bnd_ex hF
          refine r_callVi (As := [.ref (G.2.2.2.2.2.2 ("side"))]) (rest := []) C hR (C_M_isWord l hl0 G ("side") mq17 txm_1 _ _ hzq21) (by decide) (by decide) ob78 rfl wX11_102 rfl rfl (Nat.le_of_ble_eq_true rfl) hl.1 ⟨Nat.zero_le _, Nat.zero_le _⟩ (dk DX11_readPart 37 rfl) (fun H locs hR => ?_)
          refine z_ifeq (tgt := 86) hx hb (dk DX11_readPart 38 rfl) (by decide) (fun c79 => ?_) (fun c79 => ?_)
          · have hF := if_f c79 hF
            refine lv_aload_n hx hb (dk DX11_readPart 41 rfl) rfl (lv_at hl 0 rfl) ?_
            refine r_lds C (strm_X11_110) (dk DX11_readPart 42 rfl) ?_
            obtain ⟨zq25, mq23, hzq24, hF⟩ := bnd_ex hF
            refine r_callVi (As := [.ref (G.2.2.2.2.2.2 ("bat"))]) (rest := []) C hR (C_M_isWord l hl0 G ("bat") mq20 txm_2 _ _ hzq24) (by decide) (by decide) ob78 rfl wX11_102 rfl rfl (Nat.le_of_ble_eq_true rfl) hl.1 ⟨Nat.zero_le _, Nat.zero_le _⟩ (dk DX11_readPart 43 rfl) (fun H locs hR => ?_)
            refine z_ifeq (tgt := 99) hx hb (dk DX11_readPart 44 rfl) (by decide) (fun c92 => ?_) (fun c92 => ?_)
            · have hF := if_f c92 hF
              refine lv_aload_n hx hb (dk DX11_readPart 47 rfl) rfl (lv_at hl 0 rfl) ?_
              refine r_lds C (strm_X11_116) (dk DX11_readPart 48 rfl) ?_
              obtain ⟨zq28, mq26, hzq27, hF⟩ := bnd_ex hF
              refine r_callVi (As := [.ref (G.2.2.2.2.2.2 ("bowl"))]) (rest := []) C hR (C_M_isWord l hl0 G ("bowl") mq23 txm_3 _ _ hzq27) (by decide) (by decide) ob78 rfl wX11_102 rfl rfl (Nat.le_of_ble_eq_true rfl) hl.1 ⟨Nat.zero_le _, Nat.zero_le _⟩ (dk DX11_readPart 49 rfl) (fun H locs hR => ?_)
              refine z_ifeq (tgt := 112) hx hb (dk DX11_readPart 50 rfl) (by decide) (fun c105 => ?_) (fun c105 => ?_)
              · have hF := if_f c105 hF
                refine lv_iconst (v := (-1 : Int32)) hx hb (dk DX11_readPart 53 rfl) (by decide) ?_
                exact J113 (-1 : Int32) mq26 _ _ ls (lv_sub hl [0] rfl) hR hF
              · have hF := if_t c105 hF
                refine lv_iconst (v := (5 : Int32)) hx hb (dk DX11_readPart 51 rfl) (by decide) ?_
                refine lv_goto (tgt := 113) hx hb (dk DX11_readPart 52 rfl) (by decide) ?_
                exact J113 (5 : Int32) mq26 _ _ ls (lv_sub hl [0] rfl) hR hF
            · have hF := if_t c92 hF
              refine lv_iconst (v := (4 : Int32)) hx hb (dk DX11_readPart 45 rfl) (by decide) ?_
              refine lv_goto (tgt := 113) hx hb (dk DX11_readPart 46 rfl) (by decide) ?_
              exact J113 (4 : Int32) mq23 _ _ ls (lv_sub hl [0] rfl) hR hF
          · have hF := if_t c79 hF
            refine lv_iconst (v := (3 : Int32)) hx hb (dk DX11_readPart 39 rfl) (by decide) ?_
            refine lv_goto (tgt := 113) hx hb (dk DX11_readPart 40 rfl) (by decide) ?_
            exact J113 (3 : Int32) mq20 _ _ ls (lv_sub hl [0] rfl) hR hF
        · have hF := if_t c66 hF
          refine lv_iconst (v := (2 : Int32)) hx hb (dk DX11_readPart 33 rfl) (by decide) ?_
          refine lv_goto (tgt := 113) hx hb (dk DX11_readPart 34 rfl) (by decide) ?_
          exact J113 (2 : Int32) mq17 _ _ ls (lv_sub hl [0] rfl) hR hF
      · have hF := if_t c53 hF
        refine lv_iconst (v := (1 : Int32)) hx hb (dk DX11_readPart 27 rfl) (by decide) ?_
        refine lv_goto (tgt := 113) hx hb (dk DX11_readPart 28 rfl) (by decide) ?_
        exact J113 (1 : Int32) mq14 _ _ ls (lv_sub hl [0] rfl) hR hF
    · have hF := if_t c40 hF
      refine lv_iconst (v := (0 : Int32)) hx hb (dk DX11_readPart 21 rfl) (by decide) ?_
      refine lv_goto (tgt := 113) hx hb (dk DX11_readPart 22 rfl) (by decide) ?_
      exact J113 (0 : Int32) mq6 _ _ ls (lv_sub hl [0] rfl) hR hF
  · have hF := if_t c12 hF
    refine lv_aload_n hx hb (dk DX11_readPart 7 rfl) rfl (lv_at hl 0 rfl) ?_
    refine lv_iconst (v := (0 : Int32)) hx hb (dk DX11_readPart 8 rfl) (by decide) ?_
    refine lv_sipush (v := (999 : Int32)) hx hb (dk DX11_readPart 9 rfl) (by decide) ?_
    obtain ⟨xq31, mq29, hzq30, hF⟩ := bnd_ex hF
    refine r_callVi (As := [.int (0 : Int32), .int (999 : Int32)]) (rest := []) C hR (C_M_number l hl0 G (0 : Int32) (999 : Int32) mq1 _ _ hzq30) (by decide) (by decide) ob78 rfl wX11_106 rfl rfl (Nat.le_of_ble_eq_true rfl) hl.1 ⟨Nat.zero_le _, Nat.zero_le _⟩ (dk DX11_readPart 10 rfl) (fun H locs hR => ?_)
    refine lv_istore_n (lv' := [(1, .int xq31), (0, .ref (G.2.1 + 78))]) hx hb (dk DX11_readPart 11 rfl) rfl hl (by decide) rfl (fun ls hl => ?_)
    refine lv_aload_n hx hb (dk DX11_readPart 12 rfl) rfl (lv_at hl 1 rfl) ?_
    refine lv_bipush (v := (8 : Int32)) hx hb (dk DX11_readPart 13 rfl) (by decide) ?_
    refine lv_iload_n hx hb (dk DX11_readPart 14 rfl) rfl (lv_at hl 0 rfl) ?_
    obtain ⟨uq34, mq32, hzq33, hF⟩ := bnd_ex hF
    refine r_callVv (As := [.int (8 : Int32), .int xq31]) (rest := []) C hR (C_M_emits l hl0 G (8 : Int32) xq31 mq29 _ _ hzq33) (by decide) (by decide) ob78 rfl wX11_166 rfl rfl (Nat.le_of_ble_eq_true rfl) hl.1 ⟨Nat.zero_le _, Nat.zero_le _⟩ (dk DX11_readPart 15 rfl) (fun H locs hR => ?_)
    refine lv_goto (tgt := 120) hx hb (dk DX11_readPart 16 rfl) (by decide) ?_
    exact J120 xq31 mq32 _ _ ls (lv_sub hl [0] rfl) hR hF
set_option maxHeartbeats 4000000 in
set_option maxRecDepth 100000 in
theorem C_M_readSum (l : Launch) (hl0 : l.stackTraces = false) (G : GG) (m0 : Mem) (v : Bool) (m' : Mem) (hF : F_M_readSum m0 = some (v, m')) : Ct l G mr0 N0 yX11_readSum cX11_readSum 1 (some .boolean) 11 [.ref (G.2.1 + 78)] m0 (some (.int (b2i v))) m' := by
  refine Ct_of hl0 (by decide) (Nat.le_of_ble_eq_true rfl) ?_
  intro p e s mid args below meth c ls C hrt hl hR
  have hx := C.1.1
  have hb := C.1.2.1
  have hl : lv_has ls 1 [(0, .ref (G.2.1 + 78))] := hl
  unfold F_M_readSum at hF
  refine lv_aload_n hx hb (dk DX11_readSum 0 rfl) rfl (lv_at hl 0 rfl) ?_
  obtain ⟨zq3, mq1, hzq2, hF⟩ := bnd_ex hF
  refine r_callVi (As := []) (rest := []) C hR (C_M_readPart l hl0 G m0 _ _ hzq2) (by decide) (by decide) ob78 rfl wX11_176 rfl rfl (Nat.le_of_ble_eq_true rfl) hl.1 ⟨Nat.zero_le _, Nat.zero_le _⟩ (dk DX11_readSum 1 rfl) (fun H locs hR => ?_)
  refine z_ifne (tgt := 9) hx hb (dk DX11_readSum 2 rfl) (by decide) (fun c4 => ?_) (fun c4 => ?_)
  · have hF := if_t c4 hF
    have L9 : ∀ (nf : Nat) (mq4 : Mem) (H : Heap) (locs : List Loc) (ls : Array Slot), lv_has ls 1 [(0, .ref (G.2.1 + 78))] → Rp G mr0 N0 mq4 s H locs → F_M_readSum_L9 nf mq4 = some (v, m') → W p l e (rmD 11) s mid args below meth c H locs 0 0 (MQ below (QR G mr0 N0 (some (.int (b2i v))) m') args s 0 0 (fun q => G.2.1 ≤ q)) (F0 mid 9 ls []) := by
      intro nf
      induction nf with
      | zero =>
        intro mq4 H locs ls hl hR hF
        rw [F_M_readSum_L9] at hF
        cases hF
      | succ nf ihq6 =>
        intro mq4 H locs ls hl hR hF
        rw [F_M_readSum_L9] at hF
        refine lv_aload_n hx hb (dk DX11_readSum 5 rfl) rfl (lv_at hl 0 rfl) ?_
        refine lv_bipush (v := (43 : Int32)) hx hb (dk DX11_readSum 6 rfl) (by decide) ?_
        obtain ⟨zq9, mq7, hzq8, hF⟩ := bnd_ex hF
        refine r_callVi (As := [.int (43 : Int32)]) (rest := []) C hR (C_M_sign l hl0 G (43 : Int32) mq4 _ _ hzq8) (by decide) (by decide) ob78 rfl wX11_179 rfl rfl (Nat.le_of_ble_eq_true rfl) hl.1 ⟨Nat.zero_le _, Nat.zero_le _⟩ (dk DX11_readSum 7 rfl) (fun H locs hR => ?_)
        refine z_ifeq (tgt := 37) hx hb (dk DX11_readSum 8 rfl) (by decide) (fun c15 => ?_) (fun c15 => ?_)
        · have hF := if_f c15 hF
          refine lv_iconst (v := (1 : Int32)) hx hb (dk DX11_readSum 19 rfl) (by decide) ?_
          cases hF
          exact r_zret C hrt hR (dk DX11_readSum 20 rfl)
        · have hF := if_t c15 hF
          refine lv_aload_n hx hb (dk DX11_readSum 9 rfl) rfl (lv_at hl 0 rfl) ?_
          obtain ⟨zq12, mq10, hzq11, hF⟩ := bnd_ex hF
          refine r_callVi (As := []) (rest := []) C hR (C_M_readPart l hl0 G mq7 _ _ hzq11) (by decide) (by decide) ob78 rfl wX11_176 rfl rfl (Nat.le_of_ble_eq_true rfl) hl.1 ⟨Nat.zero_le _, Nat.zero_le _⟩ (dk DX11_readSum 10 rfl) (fun H locs hR => ?_)
          refine z_ifne (tgt := 27) hx hb (dk DX11_readSum 11 rfl) (by decide) (fun c22 => ?_) (fun c22 => ?_)
          · have hF := if_t c22 hF
            refine lv_aload_n hx hb (dk DX11_readSum 14 rfl) rfl (lv_at hl 0 rfl) ?_
            refine lv_bipush (v := (9 : Int32)) hx hb (dk DX11_readSum 15 rfl) (by decide) ?_
            refine lv_iconst (v := (0 : Int32)) hx hb (dk DX11_readSum 16 rfl) (by decide) ?_
            obtain ⟨uq15, mq13, hzq14, hF⟩ := bnd_ex hF
            refine r_callVv (As := [.int (9 : Int32), .int (0 : Int32)]) (rest := []) C hR (C_M_emits l hl0 G (9 : Int32) (0 : Int32) mq10 _ _ hzq14) (by decide) (by decide) ob78 rfl wX11_166 rfl rfl (Nat.le_of_ble_eq_true rfl) hl.1 ⟨Nat.zero_le _, Nat.zero_le _⟩ (dk DX11_readSum 17 rfl) (fun H locs hR => ?_)
            refine lv_goto (tgt := 9) hx hb (dk DX11_readSum 18 rfl) (by decide) ?_
            exact ihq6 mq13 _ _ ls (lv_sub hl [0] rfl) hR hF
          · have hF := if_f c22 hF
            refine lv_iconst (v := (0 : Int32)) hx hb (dk DX11_readSum 12 rfl) (by decide) ?_
            cases hF
            exact r_zret C hrt hR (dk DX11_readSum 13 rfl)
    exact L9 1000000 mq1 _ _ ls (lv_sub hl [0] rfl) hR hF
  · have hF := if_f c4 hF
    refine lv_iconst (v := (0 : Int32)) hx hb (dk DX11_readSum 3 rfl) (by decide) ?_
    cases hF
    exact r_zret C hrt hR (dk DX11_readSum 4 rfl)
set_option maxHeartbeats 4000000 in
set_option maxRecDepth 100000 in
theorem C_M_readAtom_b (l : Launch) (hl0 : l.stackTraces = false) (G : GG) (D : Nat) (rc : Mem → Option (Bool × Mem)) (hrc : ∀  (m0 : Mem) (v : Bool) (m' : Mem), rc m0 = some (v, m') → Ct l G mr0 N0 yX11_readAtom cX11_readAtom 3 (some .boolean) D [.ref (G.2.1 + 78)] m0 (some (.int (b2i v))) m') (hD : 12 ≤ D) (m0 : Mem) (v : Bool) (m' : Mem) (hF : F_M_readAtom_b rc m0 = some (v, m')) : Ct l G mr0 N0 yX11_readAtom cX11_readAtom 3 (some .boolean) (D + 3) [.ref (G.2.1 + 78)] m0 (some (.int (b2i v))) m' := by
  refine Ct_of hl0 (by decide) (Nat.le_of_ble_eq_true rfl) ?_
  intro p e s mid args below meth c ls C hrt hl hR
  have hx := C.1.1
  have hb := C.1.2.1
  have hl : lv_has ls 3 [(0, .ref (G.2.1 + 78))] := hl
  unfold F_M_readAtom_b at hF
  refine lv_aload_n hx hb (dk DX11_readAtom 0 rfl) rfl (lv_at hl 0 rfl) ?_
  refine lv_bipush (v := (40 : Int32)) hx hb (dk DX11_readAtom 1 rfl) (by decide) ?_
  obtain ⟨zq3, mq1, hzq2, hF⟩ := bnd_ex hF
  refine r_callVi (As := [.int (40 : Int32)]) (rest := []) C hR (C_M_sign l hl0 G (40 : Int32) m0 _ _ hzq2) (by omega) (by decide) ob78 rfl wX11_179 rfl rfl (Nat.le_of_ble_eq_true rfl) hl.1 ⟨Nat.zero_le _, Nat.zero_le _⟩ (dk DX11_readAtom 2 rfl) (fun H locs hR => ?_)
  refine z_ifeq (tgt := 56) hx hb (dk DX11_readAtom 3 rfl) (by decide) (fun c6 => ?_) (fun c6 => ?_)
  · have hF := if_f c6 hF
    refine lv_aload_n hx hb (dk DX11_readAtom 31 rfl) rfl (lv_at hl 0 rfl) ?_
    refine r_lds C (strm_X11_188) (dk DX11_readAtom 32 rfl) ?_
    obtain ⟨zq6, mq4, hzq5, hF⟩ := bnd_ex hF
    refine r_callVi (As := [.ref (G.2.2.2.2.2.2 ("not"))]) (rest := []) C hR (C_M_passes l hl0 G ("not") mq1 txm_15 _ _ hzq5) (by omega) (by decide) ob78 rfl wX11_190 rfl rfl (Nat.le_of_ble_eq_true rfl) hl.1 ⟨Nat.zero_le _, Nat.zero_le _⟩ (dk DX11_readAtom 33 rfl) (fun H locs hR => ?_)
    refine z_ifeq (tgt := 114) hx hb (dk DX11_readAtom 34 rfl) (by decide) (fun c62 => ?_) (fun c62 => ?_)
    · have hF := if_f c62 hF
      refine lv_aload_n hx hb (dk DX11_readAtom 64 rfl) rfl (lv_at hl 0 rfl) ?_
      refine r_lds C (strm_X11_141) (dk DX11_readAtom 65 rfl) ?_
      obtain ⟨zq9, mq7, hzq8, hF⟩ := bnd_ex hF
      refine r_callVi (As := [.ref (G.2.2.2.2.2.2 ("cloud"))]) (rest := []) C hR (C_M_passes l hl0 G ("cloud") mq4 txm_7 _ _ hzq8) (by omega) (by decide) ob78 rfl wX11_190 rfl rfl (Nat.le_of_ble_eq_true rfl) hl.1 ⟨Nat.zero_le _, Nat.zero_le _⟩ (dk DX11_readAtom 66 rfl) (fun H locs hR => ?_)
      refine lv_istore_n (lv' := [(1, .int (b2i zq9)), (0, .ref (G.2.1 + 78))]) hx hb (dk DX11_readAtom 67 rfl) rfl hl (by decide) rfl (fun ls hl => ?_)
      refine lv_iload_n hx hb (dk DX11_readAtom 68 rfl) rfl (lv_at hl 0 rfl) ?_
      obtain ⟨k134_10, ek134_10, hF⟩ := lt_ex hF
      have J134 : ∀ (mq10 : Mem) (H : Heap) (locs : List Loc) (ls : Array Slot), lv_has ls 3 [(0, .ref (G.2.1 + 78)), (1, .int (b2i zq9))] → Rp G mr0 N0 mq10 s H locs → k134_10  mq10 = some (v, m') → W p l e (rmD (D + 3)) s mid args below meth c H locs 0 0 (MQ below (QR G mr0 N0 (some (.int (b2i v))) m') args s 0 0 (fun q => G.2.1 ≤ q)) (F0 mid 134 ls []) := by
        intro  mq10 H locs ls hl hR hF
        rw [ek134_10] at hF
        refine lv_aload_n hx hb (dk DX11_readAtom 74 rfl) rfl (lv_at hl 0 rfl) ?_
        refine lv_iload_n hx hb (dk DX11_readAtom 75 rfl) rfl (lv_at hl 1 rfl) ?_
        obtain ⟨k146_12, ek146_12, hF⟩ := lt_ex hF
        have J146 : ∀ (xq12 : Int32) (mq11 : Mem) (H : Heap) (locs : List Loc) (ls : Array Slot), lv_has ls 3 [] → Rp G mr0 N0 mq11 s H locs → k146_12 xq12 mq11 = some (v, m') → W p l e (rmD (D + 3)) s mid args below meth c H locs 0 0 (MQ below (QR G mr0 N0 (some (.int (b2i v))) m') args s 0 0 (fun q => G.2.1 ≤ q)) (F0 mid 146 ls [.int xq12, .ref (G.2.1 + 78)]) := by
          intro xq12 mq11 H locs ls hl hR hF
          rw [ek146_12] at hF
          refine lv_iconst (v := (0 : Int32)) hx hb (dk DX11_readAtom 80 rfl) (by decide) ?_
          obtain ⟨uq15, mq13, hzq14, hF⟩ := bnd_ex hF
          refine r_callVv (As := [.int xq12, .int (0 : Int32)]) (rest := []) C hR (C_M_emits l hl0 G xq12 (0 : Int32) mq11 _ _ hzq14) (by omega) (by decide) ob78 rfl wX11_166 rfl rfl (Nat.le_of_ble_eq_true rfl) hl.1 ⟨Nat.zero_le _, Nat.zero_le _⟩ (dk DX11_readAtom 81 rfl) (fun H locs hR => ?_)
          refine lv_iconst (v := (1 : Int32)) hx hb (dk DX11_readAtom 82 rfl) (by decide) ?_
          cases hF
          exact r_zret C hrt hR (dk DX11_readAtom 83 rfl)
        refine z_ifeq (tgt := 144) hx hb (dk DX11_readAtom 76 rfl) (by decide) (fun c136 => ?_) (fun c136 => ?_)
        · have hF := if_f c136 hF
          refine lv_bipush (v := (7 : Int32)) hx hb (dk DX11_readAtom 79 rfl) (by decide) ?_
          exact J146 (7 : Int32) mq10 _ _ ls (lv_sub hl [] rfl) hR hF
        · have hF := if_t c136 hF
          refine lv_bipush (v := (6 : Int32)) hx hb (dk DX11_readAtom 77 rfl) (by decide) ?_
          refine lv_goto (tgt := 146) hx hb (dk DX11_readAtom 78 rfl) (by decide) ?_
          exact J146 (6 : Int32) mq10 _ _ ls (lv_sub hl [] rfl) hR hF
      refine z_ifne (tgt := 134) hx hb (dk DX11_readAtom 69 rfl) (by decide) (fun c122 => ?_) (fun c122 => ?_)
      · have hF := if_t c122 hF
        exact J134 mq7 _ _ ls (lv_sub hl [1, 0] rfl) hR hF
      · have hF := if_f c122 hF
        refine lv_aload_n hx hb (dk DX11_readAtom 70 rfl) rfl (lv_at hl 1 rfl) ?_
        refine r_lds C (strm_X11_147) (dk DX11_readAtom 71 rfl) ?_
        obtain ⟨zq18, mq16, hzq17, hF⟩ := bnd_ex hF
        refine r_callVi (As := [.ref (G.2.2.2.2.2.2 ("tide"))]) (rest := []) C hR (C_M_passes l hl0 G ("tide") mq7 txm_8 _ _ hzq17) (by omega) (by decide) ob78 rfl wX11_190 rfl rfl (Nat.le_of_ble_eq_true rfl) hl.1 ⟨Nat.zero_le _, Nat.zero_le _⟩ (dk DX11_readAtom 72 rfl) (fun H locs hR => ?_)
        refine z_ifeq (tgt := 152) hx hb (dk DX11_readAtom 73 rfl) (by decide) (fun c131 => ?_) (fun c131 => ?_)
        · have hF := if_f c131 hF
          refine lv_aload_n hx hb (dk DX11_readAtom 84 rfl) rfl (lv_at hl 1 rfl) ?_
          obtain ⟨zq21, mq19, hzq20, hF⟩ := bnd_ex hF
          refine r_callVi (As := []) (rest := []) C hR (C_M_readSum l hl0 G mq16 _ _ hzq20) (by omega) (by decide) ob78 rfl wX11_196 rfl rfl (Nat.le_of_ble_eq_true rfl) hl.1 ⟨Nat.zero_le _, Nat.zero_le _⟩ (dk DX11_readAtom 85 rfl) (fun H locs hR => ?_)
          refine z_ifne (tgt := 161) hx hb (dk DX11_readAtom 86 rfl) (by decide) (fun c156 => ?_) (fun c156 => ?_)
          · have hF := if_t c156 hF
            refine lv_aload_n hx hb (dk DX11_readAtom 89 rfl) rfl (lv_at hl 1 rfl) ?_
            refine lv_bipush (v := (60 : Int32)) hx hb (dk DX11_readAtom 90 rfl) (by decide) ?_
            obtain ⟨zq24, mq22, hzq23, hF⟩ := bnd_ex hF
            refine r_callVi (As := [.int (60 : Int32)]) (rest := []) C hR (C_M_sign l hl0 G (60 : Int32) mq19 _ _ hzq23) (by omega) (by decide) ob78 rfl wX11_179 rfl rfl (Nat.le_of_ble_eq_true rfl) hl.1 ⟨Nat.zero_le _, Nat.zero_le _⟩ (dk DX11_readAtom 91 rfl) (fun H locs hR => ?_)
            refine lv_istore_n (lv' := [(2, .int (b2i zq24)), (1, .int (b2i zq9)), (0, .ref (G.2.1 + 78))]) hx hb (dk DX11_readAtom 92 rfl) rfl hl (by decide) rfl (fun ls hl => ?_)
            refine lv_iload_n hx hb (dk DX11_readAtom 93 rfl) rfl (lv_at hl 0 rfl) ?_
            obtain ⟨k181_25, ek181_25, hF⟩ := lt_ex hF
            have J181 : ∀ (mq25 : Mem) (H : Heap) (locs : List Loc) (ls : Array Slot), lv_has ls 3 [(0, .ref (G.2.1 + 78)), (2, .int (b2i zq24))] → Rp G mr0 N0 mq25 s H locs → k181_25  mq25 = some (v, m') → W p l e (rmD (D + 3)) s mid args below meth c H locs 0 0 (MQ below (QR G mr0 N0 (some (.int (b2i v))) m') args s 0 0 (fun q => G.2.1 ≤ q)) (F0 mid 181 ls []) := by
              intro  mq25 H locs ls hl hR hF
              rw [ek181_25] at hF
              refine lv_aload_n hx hb (dk DX11_readAtom 99 rfl) rfl (lv_at hl 0 rfl) ?_
              obtain ⟨zq28, mq26, hzq27, hF⟩ := bnd_ex hF
              refine r_callVi (As := []) (rest := []) C hR (C_M_readSum l hl0 G mq25 _ _ hzq27) (by omega) (by decide) ob78 rfl wX11_196 rfl rfl (Nat.le_of_ble_eq_true rfl) hl.1 ⟨Nat.zero_le _, Nat.zero_le _⟩ (dk DX11_readAtom 100 rfl) (fun H locs hR => ?_)
              refine z_ifne (tgt := 190) hx hb (dk DX11_readAtom 101 rfl) (by decide) (fun c185 => ?_) (fun c185 => ?_)
              · have hF := if_t c185 hF
                refine lv_aload_n hx hb (dk DX11_readAtom 104 rfl) rfl (lv_at hl 0 rfl) ?_
                refine lv_iload_n hx hb (dk DX11_readAtom 105 rfl) rfl (lv_at hl 1 rfl) ?_
                obtain ⟨k202_30, ek202_30, hF⟩ := lt_ex hF
                have J202 : ∀ (xq30 : Int32) (mq29 : Mem) (H : Heap) (locs : List Loc) (ls : Array Slot), lv_has ls 3 [] → Rp G mr0 N0 mq29 s H locs → k202_30 xq30 mq29 = some (v, m') → W p l e (rmD (D + 3)) s mid args below meth c H locs 0 0 (MQ below (QR G mr0 N0 (some (.int (b2i v))) m') args s 0 0 (fun q => G.2.1 ≤ q)) (F0 mid 202 ls [.int xq30, .ref (G.2.1 + 78)]) := by
                  intro xq30 mq29 H locs ls hl hR hF
                  rw [ek202_30] at hF
                  refine lv_iconst (v := (0 : Int32)) hx hb (dk DX11_readAtom 110 rfl) (by decide) ?_
                  obtain ⟨uq33, mq31, hzq32, hF⟩ := bnd_ex hF
                  refine r_callVv (As := [.int xq30, .int (0 : Int32)]) (rest := []) C hR (C_M_emits l hl0 G xq30 (0 : Int32) mq29 _ _ hzq32) (by omega) (by decide) ob78 rfl wX11_166 rfl rfl (Nat.le_of_ble_eq_true rfl) hl.1 ⟨Nat.zero_le _, Nat.zero_le _⟩ (dk DX11_readAtom 111 rfl) (fun H locs hR => ?_)
                  refine lv_iconst (v := (1 : Int32)) hx hb (dk DX11_readAtom 112 rfl) (by decide) ?_
                  cases hF
                  exact r_zret C hrt hR (dk DX11_readAtom 113 rfl)
                refine z_ifeq (tgt := 200) hx hb (dk DX11_readAtom 106 rfl) (by decide) (fun c192 => ?_) (fun c192 => ?_)
                · have hF := if_f c192 hF
                  refine lv_bipush (v := (11 : Int32)) hx hb (dk DX11_readAtom 109 rfl) (by decide) ?_
                  exact J202 (11 : Int32) mq26 _ _ ls (lv_sub hl [] rfl) hR hF
                · have hF := if_t c192 hF
                  refine lv_bipush (v := (10 : Int32)) hx hb (dk DX11_readAtom 107 rfl) (by decide) ?_
                  refine lv_goto (tgt := 202) hx hb (dk DX11_readAtom 108 rfl) (by decide) ?_
                  exact J202 (10 : Int32) mq26 _ _ ls (lv_sub hl [] rfl) hR hF
              · have hF := if_f c185 hF
                refine lv_iconst (v := (0 : Int32)) hx hb (dk DX11_readAtom 102 rfl) (by decide) ?_
                cases hF
                exact r_zret C hrt hR (dk DX11_readAtom 103 rfl)
            refine z_ifne (tgt := 181) hx hb (dk DX11_readAtom 94 rfl) (by decide) (fun c169 => ?_) (fun c169 => ?_)
            · have hF := if_t c169 hF
              exact J181 mq22 _ _ ls (lv_sub hl [2, 0] rfl) hR hF
            · have hF := if_f c169 hF
              refine lv_aload_n hx hb (dk DX11_readAtom 95 rfl) rfl (lv_at hl 2 rfl) ?_
              refine lv_bipush (v := (62 : Int32)) hx hb (dk DX11_readAtom 96 rfl) (by decide) ?_
              obtain ⟨zq36, mq34, hzq35, hF⟩ := bnd_ex hF
              refine r_callVi (As := [.int (62 : Int32)]) (rest := []) C hR (C_M_sign l hl0 G (62 : Int32) mq22 _ _ hzq35) (by omega) (by decide) ob78 rfl wX11_179 rfl rfl (Nat.le_of_ble_eq_true rfl) hl.1 ⟨Nat.zero_le _, Nat.zero_le _⟩ (dk DX11_readAtom 97 rfl) (fun H locs hR => ?_)
              refine z_ifeq (tgt := 188) hx hb (dk DX11_readAtom 98 rfl) (by decide) (fun c178 => ?_) (fun c178 => ?_)
              · have hF := if_f c178 hF
                refine lv_iconst (v := (0 : Int32)) hx hb (dk DX11_readAtom 102 rfl) (by decide) ?_
                cases hF
                exact r_zret C hrt hR (dk DX11_readAtom 103 rfl)
              · have hF := if_t c178 hF
                exact J181 mq34 _ _ ls (lv_sub hl [2, 0] rfl) hR hF
          · have hF := if_f c156 hF
            refine lv_iconst (v := (0 : Int32)) hx hb (dk DX11_readAtom 87 rfl) (by decide) ?_
            cases hF
            exact r_zret C hrt hR (dk DX11_readAtom 88 rfl)
        · have hF := if_t c131 hF
          exact J134 mq16 _ _ ls (lv_sub hl [1, 0] rfl) hR hF
    · have hF := if_t c62 hF
      refine lv_aload_n hx hb (dk DX11_readAtom 35 rfl) rfl (lv_at hl 0 rfl) ?_
      refine gX11_182 C hR ob78 (dk DX11_readAtom 36 rfl) ?_
      refine lv_bipush (v := (6 : Int32)) hx hb (dk DX11_readAtom 37 rfl) (by decide) ?_
      refine lv_icmp_ne (tgt := 76) hx hb (dk DX11_readAtom 38 rfl) (by decide) (fun c71 => ?_) (fun c71 => ?_)
      · have hF := if_f c71 hF
        refine lv_aload_n hx hb (dk DX11_readAtom 41 rfl) rfl (lv_at hl 0 rfl) ?_
        refine lv_dup hx hb (dk DX11_readAtom 42 rfl) rfl ?_
        refine gX11_182 C hR ob78 (dk DX11_readAtom 43 rfl) ?_
        refine lv_iconst (v := (1 : Int32)) hx hb (dk DX11_readAtom 44 rfl) (by decide) ?_
        refine lv_iadd hx hb (dk DX11_readAtom 45 rfl) ?_
        refine pX11_182 (x := (gI mq4 78 12) + (1 : Int32)) C hR ob78 (dk DX11_readAtom 46 rfl) (fun H locs hR => ?_)
        obtain ⟨mq37, emq37, hF⟩ := lt_ex hF
        have hR := Rp_at emq37 hR
        refine lv_aload_n hx hb (dk DX11_readAtom 47 rfl) rfl (lv_at hl 0 rfl) ?_
        obtain ⟨zq40, mq38, hzq39, hF⟩ := bnd_ex hF
        refine r_callVi (As := []) (rest := []) C hR (hrc mq37 _ _ hzq39) (by omega) (by decide) ob78 rfl wX11_193 rfl rfl (Nat.le_of_ble_eq_true rfl) hl.1 ⟨Nat.zero_le _, Nat.zero_le _⟩ (dk DX11_readAtom 48 rfl) (fun H locs hR => ?_)
        refine z_ifne (tgt := 95) hx hb (dk DX11_readAtom 49 rfl) (by decide) (fun c90 => ?_) (fun c90 => ?_)
        · have hF := if_t c90 hF
          refine lv_aload_n hx hb (dk DX11_readAtom 52 rfl) rfl (lv_at hl 0 rfl) ?_
          refine lv_dup hx hb (dk DX11_readAtom 53 rfl) rfl ?_
          refine gX11_182 C hR ob78 (dk DX11_readAtom 54 rfl) ?_
          refine lv_iconst (v := (1 : Int32)) hx hb (dk DX11_readAtom 55 rfl) (by decide) ?_
          refine lv_isub hx hb (dk DX11_readAtom 56 rfl) ?_
          refine pX11_182 (x := (gI mq38 78 12) - (1 : Int32)) C hR ob78 (dk DX11_readAtom 57 rfl) (fun H locs hR => ?_)
          obtain ⟨mq41, emq41, hF⟩ := lt_ex hF
          have hR := Rp_at emq41 hR
          refine lv_aload_n hx hb (dk DX11_readAtom 58 rfl) rfl (lv_at hl 0 rfl) ?_
          refine lv_bipush (v := (12 : Int32)) hx hb (dk DX11_readAtom 59 rfl) (by decide) ?_
          refine lv_iconst (v := (0 : Int32)) hx hb (dk DX11_readAtom 60 rfl) (by decide) ?_
          obtain ⟨uq44, mq42, hzq43, hF⟩ := bnd_ex hF
          refine r_callVv (As := [.int (12 : Int32), .int (0 : Int32)]) (rest := []) C hR (C_M_emits l hl0 G (12 : Int32) (0 : Int32) mq41 _ _ hzq43) (by omega) (by decide) ob78 rfl wX11_166 rfl rfl (Nat.le_of_ble_eq_true rfl) hl.1 ⟨Nat.zero_le _, Nat.zero_le _⟩ (dk DX11_readAtom 61 rfl) (fun H locs hR => ?_)
          refine lv_iconst (v := (1 : Int32)) hx hb (dk DX11_readAtom 62 rfl) (by decide) ?_
          cases hF
          exact r_zret C hrt hR (dk DX11_readAtom 63 rfl)
        · have hF := if_f c90 hF
          refine lv_iconst (v := (0 : Int32)) hx hb (dk DX11_readAtom 50 rfl) (by decide) ?_
          cases hF
          exact r_zret C hrt hR (dk DX11_readAtom 51 rfl)
      · have hF := if_t c71 hF
        refine lv_iconst (v := (0 : Int32)) hx hb (dk DX11_readAtom 39 rfl) (by decide) ?_
        cases hF
        exact r_zret C hrt hR (dk DX11_readAtom 40 rfl)
  · have hF := if_t c6 hF
    refine lv_aload_n hx hb (dk DX11_readAtom 4 rfl) rfl (lv_at hl 0 rfl) ?_
    refine gX11_182 C hR ob78 (dk DX11_readAtom 5 rfl) ?_
    refine lv_bipush (v := (6 : Int32)) hx hb (dk DX11_readAtom 6 rfl) (by decide) ?_
    refine lv_icmp_ne (tgt := 20) hx hb (dk DX11_readAtom 7 rfl) (by decide) (fun c15 => ?_) (fun c15 => ?_)
    · have hF := if_f c15 hF
      refine lv_aload_n hx hb (dk DX11_readAtom 10 rfl) rfl (lv_at hl 0 rfl) ?_
      refine lv_dup hx hb (dk DX11_readAtom 11 rfl) rfl ?_
      refine gX11_182 C hR ob78 (dk DX11_readAtom 12 rfl) ?_
      refine lv_iconst (v := (1 : Int32)) hx hb (dk DX11_readAtom 13 rfl) (by decide) ?_
      refine lv_iadd hx hb (dk DX11_readAtom 14 rfl) ?_
      refine pX11_182 (x := (gI mq1 78 12) + (1 : Int32)) C hR ob78 (dk DX11_readAtom 15 rfl) (fun H locs hR => ?_)
      obtain ⟨mq45, emq45, hF⟩ := lt_ex hF
      have hR := Rp_at emq45 hR
      refine lv_aload_n hx hb (dk DX11_readAtom 16 rfl) rfl (lv_at hl 0 rfl) ?_
      obtain ⟨zq48, mq46, hzq47, hF⟩ := bnd_ex hF
      refine r_callVi (As := []) (rest := []) C hR (C_M_readCond l hl0 G D rc hrc (by omega) mq45 _ _ hzq47) (by omega) (by decide) ob78 rfl wX11_185 rfl rfl (Nat.le_of_ble_eq_true rfl) hl.1 ⟨Nat.zero_le _, Nat.zero_le _⟩ (dk DX11_readAtom 17 rfl) (fun H locs hR => ?_)
      refine z_ifne (tgt := 39) hx hb (dk DX11_readAtom 18 rfl) (by decide) (fun c34 => ?_) (fun c34 => ?_)
      · have hF := if_t c34 hF
        refine lv_aload_n hx hb (dk DX11_readAtom 21 rfl) rfl (lv_at hl 0 rfl) ?_
        refine lv_dup hx hb (dk DX11_readAtom 22 rfl) rfl ?_
        refine gX11_182 C hR ob78 (dk DX11_readAtom 23 rfl) ?_
        refine lv_iconst (v := (1 : Int32)) hx hb (dk DX11_readAtom 24 rfl) (by decide) ?_
        refine lv_isub hx hb (dk DX11_readAtom 25 rfl) ?_
        refine pX11_182 (x := (gI mq46 78 12) - (1 : Int32)) C hR ob78 (dk DX11_readAtom 26 rfl) (fun H locs hR => ?_)
        obtain ⟨mq49, emq49, hF⟩ := lt_ex hF
        have hR := Rp_at emq49 hR
        refine lv_aload_n hx hb (dk DX11_readAtom 27 rfl) rfl (lv_at hl 0 rfl) ?_
        refine lv_bipush (v := (41 : Int32)) hx hb (dk DX11_readAtom 28 rfl) (by decide) ?_
        obtain ⟨zq52, mq50, hzq51, hF⟩ := bnd_ex hF
        refine r_callVi (As := [.int (41 : Int32)]) (rest := []) C hR (C_M_sign l hl0 G (41 : Int32) mq49 _ _ hzq51) (by omega) (by decide) ob78 rfl wX11_179 rfl rfl (Nat.le_of_ble_eq_true rfl) hl.1 ⟨Nat.zero_le _, Nat.zero_le _⟩ (dk DX11_readAtom 29 rfl) (fun H locs hR => ?_)
        cases hF
        exact r_zret C hrt hR (dk DX11_readAtom 30 rfl)
      · have hF := if_f c34 hF
        refine lv_iconst (v := (0 : Int32)) hx hb (dk DX11_readAtom 19 rfl) (by decide) ?_
        cases hF
        exact r_zret C hrt hR (dk DX11_readAtom 20 rfl)
    · have hF := if_t c15 hF
      refine lv_iconst (v := (0 : Int32)) hx hb (dk DX11_readAtom 8 rfl) (by decide) ?_
      cases hF
      exact r_zret C hrt hR (dk DX11_readAtom 9 rfl)
theorem C_M_readAtom (l : Launch) (hl0 : l.stackTraces = false) (G : GG) : ∀ (k : Nat)  (m0 : Mem) (v : Bool) (m' : Mem), F_M_readAtom k m0 = some (v, m') → Ct l G mr0 N0 yX11_readAtom cX11_readAtom 3 (some .boolean) (13 + 3 * k) [.ref (G.2.1 + 78)] m0 (some (.int (b2i v))) m'
  | 0, m0, v, m', h => by rw [F_M_readAtom] at h; cases h
  | k + 1, m0, v, m', h => by
    rw [F_M_readAtom] at h
    have := C_M_readAtom_b l hl0 G (13 + 3 * k) (F_M_readAtom k) (fun  m1 v1 m2 h1 => C_M_readAtom l hl0 G k  m1 v1 m2 h1) (by omega) m0 v m' h
    rw [show 13 + 3 * (k + 1) = 13 + 3 * k + 3 by omega]
    exact this
set_option maxHeartbeats 4000000 in
set_option maxRecDepth 100000 in
theorem C_M_readLawLine (l : Launch) (hl0 : l.stackTraces = false) (G : GG) (a1 : Int32) (m0 : Mem) (v : Bool) (m' : Mem) (hF : F_M_readLawLine a1 m0 = some (v, m')) : Ct l G mr0 N0 yX11_readLawLine cX11_readLawLine 3 (some .boolean) 40 [.ref (G.2.1 + 78), .int a1] m0 (some (.int (b2i v))) m' := by
  refine Ct_of hl0 (by decide) (Nat.le_of_ble_eq_true rfl) ?_
  intro p e s mid args below meth c ls C hrt hl hR
  have hx := C.1.1
  have hb := C.1.2.1
  have hl : lv_has ls 3 [(0, .ref (G.2.1 + 78)), (1, .int a1)] := hl
  unfold F_M_readLawLine at hF
  refine lv_sipush (v := (1136 : Int32)) hx hb (dk DX11_readLawLine 0 rfl) (by decide) ?_
  refine lv_iconst (v := (3 : Int32)) hx hb (dk DX11_readLawLine 1 rfl) (by decide) ?_
  refine lv_iload_n hx hb (dk DX11_readLawLine 2 rfl) rfl (lv_at hl 1 rfl) ?_
  refine lv_imul hx hb (dk DX11_readLawLine 3 rfl) ?_
  refine lv_iadd hx hb (dk DX11_readLawLine 4 rfl) ?_
  refine lv_topi (fun xq1 exq1 => ?_)
  have hF := lt_at exq1 hF
  refine lv_istore_n (lv' := [(2, .int xq1), (0, .ref (G.2.1 + 78)), (1, .int a1)]) hx hb (dk DX11_readLawLine 5 rfl) rfl hl (by decide) rfl (fun ls hl => ?_)
  refine lv_aload_n hx hb (dk DX11_readLawLine 6 rfl) rfl (lv_at hl 1 rfl) ?_
  refine r_lds C (strm_X11_206) (dk DX11_readLawLine 7 rfl) ?_
  obtain ⟨zq4, mq2, hzq3, hF⟩ := bnd_ex hF
  refine r_callVi (As := [.ref (G.2.2.2.2.2.2 ("hard"))]) (rest := []) C hR (C_M_isWord l hl0 G ("hard") m0 txm_13 _ _ hzq3) (by decide) (by decide) ob78 rfl wX11_102 rfl rfl (Nat.le_of_ble_eq_true rfl) hl.1 ⟨Nat.zero_le _, Nat.zero_le _⟩ (dk DX11_readLawLine 8 rfl) (fun H locs hR => ?_)
  refine z_ifne (tgt := 19) hx hb (dk DX11_readLawLine 9 rfl) (by decide) (fun c14 => ?_) (fun c14 => ?_)
  · have hF := if_t c14 hF
    refine lv_aload_n hx hb (dk DX11_readLawLine 12 rfl) rfl (lv_at hl 1 rfl) ?_
    refine gX11_13 C hR ob78 rf78_1 (dk DX11_readLawLine 13 rfl) ?_
    refine lv_iload_n hx hb (dk DX11_readLawLine 14 rfl) rfl (lv_at hl 0 rfl) ?_
    refine lv_aload_n hx hb (dk DX11_readLawLine 15 rfl) rfl (lv_at hl 1 rfl) ?_
    refine lv_iconst (v := (0 : Int32)) hx hb (dk DX11_readLawLine 16 rfl) (by decide) ?_
    refine lv_bipush (v := (9 : Int32)) hx hb (dk DX11_readLawLine 17 rfl) (by decide) ?_
    obtain ⟨xq7, mq5, hzq6, hF⟩ := bnd_ex hF
    refine r_callVi (As := [.int (0 : Int32), .int (9 : Int32)]) (rest := [.int xq1, .ref (G.2.1 + 79)]) C hR (C_M_number l hl0 G (0 : Int32) (9 : Int32) mq2 _ _ hzq6) (by decide) (by decide) ob78 rfl wX11_106 rfl rfl (Nat.le_of_ble_eq_true rfl) hl.1 ⟨Nat.zero_le _, Nat.zero_le _⟩ (dk DX11_readLawLine 18 rfl) (fun H locs hR => ?_)
    obtain ⟨hq9, hF⟩ := ckB_ex hF
    refine r_iast C hR ob79 hq9 (dk DX11_readLawLine 19 rfl) (fun H locs hR => ?_)
    obtain ⟨mq8, emq8, hF⟩ := lt_ex hF
    have hR := Rp_at emq8 hR
    refine lv_aload_n hx hb (dk DX11_readLawLine 20 rfl) rfl (lv_at hl 1 rfl) ?_
    refine gX11_13 C hR ob78 rf78_1 (dk DX11_readLawLine 21 rfl) ?_
    refine lv_iload_n hx hb (dk DX11_readLawLine 22 rfl) rfl (lv_at hl 0 rfl) ?_
    obtain ⟨hq10, hF⟩ := ckB_ex hF
    refine r_iald C hR ob79 hq10 (dk DX11_readLawLine 23 rfl) ?_
    refine lv_topi (fun xq11 exq11 => ?_)
    have hF := lt_at exq11 hF
    refine lv_if_ge (tgt := 43) hx hb (dk DX11_readLawLine 24 rfl) (by decide) (fun c38 => ?_) (fun c38 => ?_)
    · have hF := if_t c38 hF
      refine lv_aload_n hx hb (dk DX11_readLawLine 27 rfl) rfl (lv_at hl 1 rfl) ?_
      refine gX11_13 C hR ob78 rf78_1 (dk DX11_readLawLine 28 rfl) ?_
      refine lv_iload_n hx hb (dk DX11_readLawLine 29 rfl) rfl (lv_at hl 0 rfl) ?_
      refine lv_iconst (v := (1 : Int32)) hx hb (dk DX11_readLawLine 30 rfl) (by decide) ?_
      refine lv_iadd hx hb (dk DX11_readLawLine 31 rfl) ?_
      refine lv_aload_n hx hb (dk DX11_readLawLine 32 rfl) rfl (lv_at hl 1 rfl) ?_
      refine gX11_163 C hR ob78 (dk DX11_readLawLine 33 rfl) ?_
      obtain ⟨hq13, hF⟩ := ckB_ex hF
      refine r_iast C hR ob79 hq13 (dk DX11_readLawLine 34 rfl) (fun H locs hR => ?_)
      obtain ⟨mq12, emq12, hF⟩ := lt_ex hF
      have hR := Rp_at emq12 hR
      refine lv_aload_n hx hb (dk DX11_readLawLine 35 rfl) rfl (lv_at hl 1 rfl) ?_
      refine lv_iconst (v := (0 : Int32)) hx hb (dk DX11_readLawLine 36 rfl) (by decide) ?_
      refine pX11_182 (x := (0 : Int32)) C hR ob78 (dk DX11_readLawLine 37 rfl) (fun H locs hR => ?_)
      obtain ⟨mq14, emq14, hF⟩ := lt_ex hF
      have hR := Rp_at emq14 hR
      refine lv_aload_n hx hb (dk DX11_readLawLine 38 rfl) rfl (lv_at hl 1 rfl) ?_
      refine r_lds C (strm_X11_208) (dk DX11_readLawLine 39 rfl) ?_
      obtain ⟨zq17, mq15, hzq16, hF⟩ := bnd_ex hF
      refine r_callVi (As := [.ref (G.2.2.2.2.2.2 ("if"))]) (rest := []) C hR (C_M_passes l hl0 G ("if") mq14 txm_14 _ _ hzq16) (by decide) (by decide) ob78 rfl wX11_190 rfl rfl (Nat.le_of_ble_eq_true rfl) hl.1 ⟨Nat.zero_le _, Nat.zero_le _⟩ (dk DX11_readLawLine 40 rfl) (fun H locs hR => ?_)
      obtain ⟨k78_18, ek78_18, hF⟩ := lt_ex hF
      have J78 : ∀ (mq18 : Mem) (H : Heap) (locs : List Loc) (ls : Array Slot), lv_has ls 3 [(0, .ref (G.2.1 + 78)), (2, .int xq1)] → Rp G mr0 N0 mq18 s H locs → k78_18  mq18 = some (v, m') → W p l e (rmD 40) s mid args below meth c H locs 0 0 (MQ below (QR G mr0 N0 (some (.int (b2i v))) m') args s 0 0 (fun q => G.2.1 ≤ q)) (F0 mid 78 ls []) := by
        intro  mq18 H locs ls hl hR hF
        rw [ek78_18] at hF
        refine lv_aload_n hx hb (dk DX11_readLawLine 47 rfl) rfl (lv_at hl 0 rfl) ?_
        refine gX11_13 C hR ob78 rf78_1 (dk DX11_readLawLine 48 rfl) ?_
        refine lv_iload_n hx hb (dk DX11_readLawLine 49 rfl) rfl (lv_at hl 1 rfl) ?_
        refine lv_iconst (v := (2 : Int32)) hx hb (dk DX11_readLawLine 50 rfl) (by decide) ?_
        refine lv_iadd hx hb (dk DX11_readLawLine 51 rfl) ?_
        refine lv_aload_n hx hb (dk DX11_readLawLine 52 rfl) rfl (lv_at hl 0 rfl) ?_
        refine gX11_163 C hR ob78 (dk DX11_readLawLine 53 rfl) ?_
        obtain ⟨hq20, hF⟩ := ckB_ex hF
        refine r_iast C hR ob79 hq20 (dk DX11_readLawLine 54 rfl) (fun H locs hR => ?_)
        obtain ⟨mq19, emq19, hF⟩ := lt_ex hF
        have hR := Rp_at emq19 hR
        refine lv_iconst (v := (1 : Int32)) hx hb (dk DX11_readLawLine 55 rfl) (by decide) ?_
        cases hF
        exact r_zret C hrt hR (dk DX11_readLawLine 56 rfl)
      refine z_ifeq (tgt := 78) hx hb (dk DX11_readLawLine 41 rfl) (by decide) (fun c66 => ?_) (fun c66 => ?_)
      · have hF := if_f c66 hF
        exact J78 mq15 _ _ ls (lv_sub hl [1, 0] rfl) hR hF
      · have hF := if_t c66 hF
        refine lv_aload_n hx hb (dk DX11_readLawLine 42 rfl) rfl (lv_at hl 1 rfl) ?_
        obtain ⟨zq23, mq21, hzq22, hF⟩ := bnd_ex hF
        refine r_callVi (As := []) (rest := []) C hR (C_M_readCond l hl0 G _ (F_M_readAtom 8) (C_M_readAtom l hl0 G 8) (by omega) mq15 _ _ hzq22) (by decide) (by decide) ob78 rfl wX11_185 rfl rfl (Nat.le_of_ble_eq_true rfl) hl.1 ⟨Nat.zero_le _, Nat.zero_le _⟩ (dk DX11_readLawLine 43 rfl) (fun H locs hR => ?_)
        refine z_ifne (tgt := 78) hx hb (dk DX11_readLawLine 44 rfl) (by decide) (fun c73 => ?_) (fun c73 => ?_)
        · have hF := if_t c73 hF
          exact J78 mq21 _ _ ls (lv_sub hl [1, 0] rfl) hR hF
        · have hF := if_f c73 hF
          refine lv_iconst (v := (0 : Int32)) hx hb (dk DX11_readLawLine 45 rfl) (by decide) ?_
          cases hF
          exact r_zret C hrt hR (dk DX11_readLawLine 46 rfl)
    · have hF := if_f c38 hF
      refine lv_iconst (v := (0 : Int32)) hx hb (dk DX11_readLawLine 25 rfl) (by decide) ?_
      cases hF
      exact r_zret C hrt hR (dk DX11_readLawLine 26 rfl)
  · have hF := if_f c14 hF
    refine lv_iconst (v := (0 : Int32)) hx hb (dk DX11_readLawLine 10 rfl) (by decide) ?_
    cases hF
    exact r_zret C hrt hR (dk DX11_readLawLine 11 rfl)
set_option maxHeartbeats 4000000 in
set_option maxRecDepth 100000 in
theorem C_M_readBook (l : Launch) (hl0 : l.stackTraces = false) (G : GG) (m0 : Mem) (v : Bool) (m' : Mem) (hF : F_M_readBook m0 = some (v, m')) : Ct l G mr0 N0 yX11_readBook cX11_readBook 5 (some .boolean) 4 [.ref (G.2.1 + 78)] m0 (some (.int (b2i v))) m' := by
  refine Ct_of hl0 (by decide) (Nat.le_of_ble_eq_true rfl) ?_
  intro p e s mid args below meth c ls C hrt hl hR
  have hx := C.1.1
  have hb := C.1.2.1
  have hl : lv_has ls 5 [(0, .ref (G.2.1 + 78))] := hl
  unfold F_M_readBook at hF
  refine lv_bipush (v := (55 : Int32)) hx hb (dk DX11_readBook 0 rfl) (by decide) ?_
  refine lv_iconst (v := (3 : Int32)) hx hb (dk DX11_readBook 1 rfl) (by decide) ?_
  refine lv_aload_n hx hb (dk DX11_readBook 2 rfl) rfl (lv_at hl 0 rfl) ?_
  refine gX11_13 C hR ob78 rf78_1 (dk DX11_readBook 3 rfl) ?_
  refine lv_iconst (v := (5 : Int32)) hx hb (dk DX11_readBook 4 rfl) (by decide) ?_
  refine r_iald C hR ob79 rfl (dk DX11_readBook 5 rfl) ?_
  refine lv_imul hx hb (dk DX11_readBook 6 rfl) ?_
  refine lv_iadd hx hb (dk DX11_readBook 7 rfl) ?_
  refine lv_topi (fun xq1 exq1 => ?_)
  have hF := lt_at exq1 hF
  refine lv_istore_n (lv' := [(1, .int xq1), (0, .ref (G.2.1 + 78))]) hx hb (dk DX11_readBook 8 rfl) rfl hl (by decide) rfl (fun ls hl => ?_)
  refine lv_aload_n hx hb (dk DX11_readBook 9 rfl) rfl (lv_at hl 1 rfl) ?_
  refine gX11_13 C hR ob78 rf78_1 (dk DX11_readBook 10 rfl) ?_
  refine lv_iconst (v := (5 : Int32)) hx hb (dk DX11_readBook 11 rfl) (by decide) ?_
  refine r_iald C hR ob79 rfl (dk DX11_readBook 12 rfl) ?_
  refine lv_bipush (v := (60 : Int32)) hx hb (dk DX11_readBook 13 rfl) (by decide) ?_
  refine lv_icmp_ne (tgt := 25) hx hb (dk DX11_readBook 14 rfl) (by decide) (fun c20 => ?_) (fun c20 => ?_)
  · have hF := if_f c20 hF
    refine lv_aload_n hx hb (dk DX11_readBook 17 rfl) rfl (lv_at hl 1 rfl) ?_
    refine lv_iconst (v := (0 : Int32)) hx hb (dk DX11_readBook 18 rfl) (by decide) ?_
    refine lv_iconst (v := (1 : Int32)) hx hb (dk DX11_readBook 19 rfl) (by decide) ?_
    obtain ⟨xq4, mq2, hzq3, hF⟩ := bnd_ex hF
    refine r_callVi (As := [.int (0 : Int32), .int (1 : Int32)]) (rest := []) C hR (C_M_number l hl0 G (0 : Int32) (1 : Int32) m0 _ _ hzq3) (by decide) (by decide) ob78 rfl wX11_106 rfl rfl (Nat.le_of_ble_eq_true rfl) hl.1 ⟨Nat.zero_le _, Nat.zero_le _⟩ (dk DX11_readBook 20 rfl) (fun H locs hR => ?_)
    refine lv_istore_n (lv' := [(2, .int xq4), (1, .int xq1), (0, .ref (G.2.1 + 78))]) hx hb (dk DX11_readBook 21 rfl) rfl hl (by decide) rfl (fun ls hl => ?_)
    refine lv_iload_n hx hb (dk DX11_readBook 22 rfl) rfl (lv_at hl 0 rfl) ?_
    obtain ⟨k46_6, ek46_6, hF⟩ := lt_ex hF
    have J46 : ∀ (xq6 : Int32) (mq5 : Mem) (H : Heap) (locs : List Loc) (ls : Array Slot), lv_has ls 5 [(0, .ref (G.2.1 + 78)), (1, .int xq1), (2, .int xq4)] → Rp G mr0 N0 mq5 s H locs → k46_6 xq6 mq5 = some (v, m') → W p l e (rmD 4) s mid args below meth c H locs 0 0 (MQ below (QR G mr0 N0 (some (.int (b2i v))) m') args s 0 0 (fun q => G.2.1 ≤ q)) (F0 mid 46 ls [.int xq6]) := by
      intro xq6 mq5 H locs ls hl hR hF
      rw [ek46_6] at hF
      refine lv_istore_n (lv' := [(3, .int xq6), (0, .ref (G.2.1 + 78)), (1, .int xq1), (2, .int xq4)]) hx hb (dk DX11_readBook 30 rfl) rfl hl (by decide) rfl (fun ls hl => ?_)
      refine lv_iload_n hx hb (dk DX11_readBook 31 rfl) rfl (lv_at hl 0 rfl) ?_
      obtain ⟨k61_8, ek61_8, hF⟩ := lt_ex hF
      have J61 : ∀ (xq8 : Int32) (mq7 : Mem) (H : Heap) (locs : List Loc) (ls : Array Slot), lv_has ls 5 [(0, .ref (G.2.1 + 78)), (1, .int xq1), (2, .int xq4), (3, .int xq6)] → Rp G mr0 N0 mq7 s H locs → k61_8 xq8 mq7 = some (v, m') → W p l e (rmD 4) s mid args below meth c H locs 0 0 (MQ below (QR G mr0 N0 (some (.int (b2i v))) m') args s 0 0 (fun q => G.2.1 ≤ q)) (F0 mid 61 ls [.int xq8]) := by
        intro xq8 mq7 H locs ls hl hR hF
        rw [ek61_8] at hF
        refine lv_istore (lv' := [(4, .int xq8), (0, .ref (G.2.1 + 78)), (1, .int xq1), (2, .int xq4), (3, .int xq6)]) hx hb (dk DX11_readBook 39 rfl) hl (by decide) rfl (fun ls hl => ?_)
        refine lv_iload hx hb (dk DX11_readBook 40 rfl) (lv_at hl 0 rfl) ?_
        refine lv_if_ge (tgt := 70) hx hb (dk DX11_readBook 41 rfl) (by decide) (fun c65 => ?_) (fun c65 => ?_)
        · have hF := if_t c65 hF
          refine lv_aload_n hx hb (dk DX11_readBook 44 rfl) rfl (lv_at hl 1 rfl) ?_
          refine gX11_13 C hR ob78 rf78_1 (dk DX11_readBook 45 rfl) ?_
          refine lv_iload_n hx hb (dk DX11_readBook 46 rfl) rfl (lv_at hl 2 rfl) ?_
          refine lv_iload_n hx hb (dk DX11_readBook 47 rfl) rfl (lv_at hl 3 rfl) ?_
          obtain ⟨hq10, hF⟩ := ckB_ex hF
          refine r_iast C hR ob79 hq10 (dk DX11_readBook 48 rfl) (fun H locs hR => ?_)
          obtain ⟨mq9, emq9, hF⟩ := lt_ex hF
          have hR := Rp_at emq9 hR
          refine lv_aload_n hx hb (dk DX11_readBook 49 rfl) rfl (lv_at hl 1 rfl) ?_
          refine gX11_13 C hR ob78 rf78_1 (dk DX11_readBook 50 rfl) ?_
          refine lv_iload_n hx hb (dk DX11_readBook 51 rfl) rfl (lv_at hl 2 rfl) ?_
          refine lv_iconst (v := (1 : Int32)) hx hb (dk DX11_readBook 52 rfl) (by decide) ?_
          refine lv_iadd hx hb (dk DX11_readBook 53 rfl) ?_
          refine lv_iload_n hx hb (dk DX11_readBook 54 rfl) rfl (lv_at hl 4 rfl) ?_
          obtain ⟨hq12, hF⟩ := ckB_ex hF
          refine r_iast C hR ob79 hq12 (dk DX11_readBook 55 rfl) (fun H locs hR => ?_)
          obtain ⟨mq11, emq11, hF⟩ := lt_ex hF
          have hR := Rp_at emq11 hR
          refine lv_aload_n hx hb (dk DX11_readBook 56 rfl) rfl (lv_at hl 1 rfl) ?_
          refine gX11_13 C hR ob78 rf78_1 (dk DX11_readBook 57 rfl) ?_
          refine lv_iload_n hx hb (dk DX11_readBook 58 rfl) rfl (lv_at hl 2 rfl) ?_
          refine lv_iconst (v := (2 : Int32)) hx hb (dk DX11_readBook 59 rfl) (by decide) ?_
          refine lv_iadd hx hb (dk DX11_readBook 60 rfl) ?_
          refine lv_iload hx hb (dk DX11_readBook 61 rfl) (lv_at hl 0 rfl) ?_
          obtain ⟨hq14, hF⟩ := ckB_ex hF
          refine r_iast C hR ob79 hq14 (dk DX11_readBook 62 rfl) (fun H locs hR => ?_)
          obtain ⟨mq13, emq13, hF⟩ := lt_ex hF
          have hR := Rp_at emq13 hR
          refine lv_aload_n hx hb (dk DX11_readBook 63 rfl) rfl (lv_at hl 1 rfl) ?_
          refine gX11_13 C hR ob78 rf78_1 (dk DX11_readBook 64 rfl) ?_
          refine lv_iconst (v := (5 : Int32)) hx hb (dk DX11_readBook 65 rfl) (by decide) ?_
          refine lv_dup2_11 hx hb (dk DX11_readBook 66 rfl) rfl rfl ?_
          refine r_iald C hR ob79 rfl (dk DX11_readBook 67 rfl) ?_
          refine lv_iconst (v := (1 : Int32)) hx hb (dk DX11_readBook 68 rfl) (by decide) ?_
          refine lv_iadd hx hb (dk DX11_readBook 69 rfl) ?_
          refine r_iast C hR ob79 rfl (dk DX11_readBook 70 rfl) (fun H locs hR => ?_)
          obtain ⟨mq15, emq15, hF⟩ := lt_ex hF
          have hR := Rp_at emq15 hR
          refine lv_iconst (v := (1 : Int32)) hx hb (dk DX11_readBook 71 rfl) (by decide) ?_
          cases hF
          exact r_zret C hrt hR (dk DX11_readBook 72 rfl)
        · have hF := if_f c65 hF
          refine lv_iconst (v := (0 : Int32)) hx hb (dk DX11_readBook 42 rfl) (by decide) ?_
          cases hF
          exact r_zret C hrt hR (dk DX11_readBook 43 rfl)
      refine lv_if_ge (tgt := 55) hx hb (dk DX11_readBook 32 rfl) (by decide) (fun c48 => ?_) (fun c48 => ?_)
      · have hF := if_t c48 hF
        refine lv_aload_n hx hb (dk DX11_readBook 35 rfl) rfl (lv_at hl 1 rfl) ?_
        refine lv_iconst (v := (0 : Int32)) hx hb (dk DX11_readBook 36 rfl) (by decide) ?_
        refine lv_iconst (v := (2 : Int32)) hx hb (dk DX11_readBook 37 rfl) (by decide) ?_
        obtain ⟨xq18, mq16, hzq17, hF⟩ := bnd_ex hF
        refine r_callVi (As := [.int (0 : Int32), .int (2 : Int32)]) (rest := []) C hR (C_M_number l hl0 G (0 : Int32) (2 : Int32) mq5 _ _ hzq17) (by decide) (by decide) ob78 rfl wX11_106 rfl rfl (Nat.le_of_ble_eq_true rfl) hl.1 ⟨Nat.zero_le _, Nat.zero_le _⟩ (dk DX11_readBook 38 rfl) (fun H locs hR => ?_)
        exact J61 xq18 mq16 _ _ ls (lv_sub hl [1, 2, 3, 0] rfl) hR hF
      · have hF := if_f c48 hF
        refine lv_iconst (v := (-1 : Int32)) hx hb (dk DX11_readBook 33 rfl) (by decide) ?_
        refine lv_goto (tgt := 61) hx hb (dk DX11_readBook 34 rfl) (by decide) ?_
        exact J61 (-1 : Int32) mq5 _ _ ls (lv_sub hl [1, 2, 3, 0] rfl) hR hF
    refine lv_if_ge (tgt := 40) hx hb (dk DX11_readBook 23 rfl) (by decide) (fun c33 => ?_) (fun c33 => ?_)
    · have hF := if_t c33 hF
      refine lv_aload_n hx hb (dk DX11_readBook 26 rfl) rfl (lv_at hl 2 rfl) ?_
      refine lv_iconst (v := (0 : Int32)) hx hb (dk DX11_readBook 27 rfl) (by decide) ?_
      refine lv_iconst (v := (1 : Int32)) hx hb (dk DX11_readBook 28 rfl) (by decide) ?_
      obtain ⟨xq21, mq19, hzq20, hF⟩ := bnd_ex hF
      refine r_callVi (As := [.int (0 : Int32), .int (1 : Int32)]) (rest := []) C hR (C_M_number l hl0 G (0 : Int32) (1 : Int32) mq2 _ _ hzq20) (by decide) (by decide) ob78 rfl wX11_106 rfl rfl (Nat.le_of_ble_eq_true rfl) hl.1 ⟨Nat.zero_le _, Nat.zero_le _⟩ (dk DX11_readBook 29 rfl) (fun H locs hR => ?_)
      exact J46 xq21 mq19 _ _ ls (lv_sub hl [2, 1, 0] rfl) hR hF
    · have hF := if_f c33 hF
      refine lv_iconst (v := (-1 : Int32)) hx hb (dk DX11_readBook 24 rfl) (by decide) ?_
      refine lv_goto (tgt := 46) hx hb (dk DX11_readBook 25 rfl) (by decide) ?_
      exact J46 (-1 : Int32) mq2 _ _ ls (lv_sub hl [2, 1, 0] rfl) hR hF
  · have hF := if_t c20 hF
    refine lv_iconst (v := (0 : Int32)) hx hb (dk DX11_readBook 15 rfl) (by decide) ?_
    cases hF
    exact r_zret C hrt hR (dk DX11_readBook 16 rfl)
set_option maxHeartbeats 4000000 in
set_option maxRecDepth 100000 in
theorem C_M_readNumber (l : Launch) (hl0 : l.stackTraces = false) (G : GG) (a1 : Int32) (a2 : Int32) (m0 : Mem) (v : Bool) (m' : Mem) (hF : F_M_readNumber a1 a2 m0 = some (v, m')) : Ct l G mr0 N0 yX11_readNumber cX11_readNumber 4 (some .boolean) 4 [.ref (G.2.1 + 78), .int a1, .int a2] m0 (some (.int (b2i v))) m' := by
  refine Ct_of hl0 (by decide) (Nat.le_of_ble_eq_true rfl) ?_
  intro p e s mid args below meth c ls C hrt hl hR
  have hx := C.1.1
  have hb := C.1.2.1
  have hl : lv_has ls 4 [(0, .ref (G.2.1 + 78)), (1, .int a1), (2, .int a2)] := hl
  unfold F_M_readNumber at hF
  refine lv_aload_n hx hb (dk DX11_readNumber 0 rfl) rfl (lv_at hl 0 rfl) ?_
  refine lv_iconst (v := (0 : Int32)) hx hb (dk DX11_readNumber 1 rfl) (by decide) ?_
  refine lv_iload_n hx hb (dk DX11_readNumber 2 rfl) rfl (lv_at hl 2 rfl) ?_
  obtain ⟨xq3, mq1, hzq2, hF⟩ := bnd_ex hF
  refine r_callVi (As := [.int (0 : Int32), .int a2]) (rest := []) C hR (C_M_number l hl0 G (0 : Int32) a2 m0 _ _ hzq2) (by decide) (by decide) ob78 rfl wX11_106 rfl rfl (Nat.le_of_ble_eq_true rfl) hl.1 ⟨Nat.zero_le _, Nat.zero_le _⟩ (dk DX11_readNumber 3 rfl) (fun H locs hR => ?_)
  refine lv_istore_n (lv' := [(3, .int xq3), (0, .ref (G.2.1 + 78)), (1, .int a1), (2, .int a2)]) hx hb (dk DX11_readNumber 4 rfl) rfl hl (by decide) rfl (fun ls hl => ?_)
  refine lv_aload_n hx hb (dk DX11_readNumber 5 rfl) rfl (lv_at hl 1 rfl) ?_
  refine gX11_13 C hR ob78 rf78_1 (dk DX11_readNumber 6 rfl) ?_
  refine lv_iload_n hx hb (dk DX11_readNumber 7 rfl) rfl (lv_at hl 2 rfl) ?_
  refine lv_iload_n hx hb (dk DX11_readNumber 8 rfl) rfl (lv_at hl 0 rfl) ?_
  obtain ⟨hq5, hF⟩ := ckB_ex hF
  refine r_iast C hR ob79 hq5 (dk DX11_readNumber 9 rfl) (fun H locs hR => ?_)
  obtain ⟨mq4, emq4, hF⟩ := lt_ex hF
  have hR := Rp_at emq4 hR
  refine lv_iload_n hx hb (dk DX11_readNumber 10 rfl) rfl (lv_at hl 0 rfl) ?_
  refine lv_if_lt (tgt := 22) hx hb (dk DX11_readNumber 11 rfl) (by decide) (fun c15 => ?_) (fun c15 => ?_)
  · have hF := if_t c15 hF
    refine lv_iconst (v := (0 : Int32)) hx hb (dk DX11_readNumber 14 rfl) (by decide) ?_
    cases hF
    exact r_zret C hrt hR (dk DX11_readNumber 15 rfl)
  · have hF := if_f c15 hF
    refine lv_iconst (v := (1 : Int32)) hx hb (dk DX11_readNumber 12 rfl) (by decide) ?_
    refine lv_goto (tgt := 23) hx hb (dk DX11_readNumber 13 rfl) (by decide) ?_
    cases hF
    exact r_zret C hrt hR (dk DX11_readNumber 15 rfl)
set_option maxHeartbeats 4000000 in
set_option maxRecDepth 100000 in
theorem C_M_isFigure (l : Launch) (hl0 : l.stackTraces = false) (G : GG) (m0 : Mem) (v : Bool) (m' : Mem) (hF : F_M_isFigure m0 = some (v, m')) : Ct l G mr0 N0 yX11_isFigure cX11_isFigure 1 (some .boolean) 3 [.ref (G.2.1 + 78)] m0 (some (.int (b2i v))) m' := by
  refine Ct_of hl0 (by decide) (Nat.le_of_ble_eq_true rfl) ?_
  intro p e s mid args below meth c ls C hrt hl hR
  have hx := C.1.1
  have hb := C.1.2.1
  have hl : lv_has ls 1 [(0, .ref (G.2.1 + 78))] := hl
  unfold F_M_isFigure at hF
  refine lv_aload_n hx hb (dk DX11_isFigure 0 rfl) rfl (lv_at hl 0 rfl) ?_
  obtain ⟨uq3, mq1, hzq2, hF⟩ := bnd_ex hF
  refine r_callVv (As := []) (rest := []) C hR (C_M_blanks l hl0 G m0 _ _ hzq2) (by decide) (by decide) ob78 rfl wX11_87 rfl rfl (Nat.le_of_ble_eq_true rfl) hl.1 ⟨Nat.zero_le _, Nat.zero_le _⟩ (dk DX11_isFigure 1 rfl) (fun H locs hR => ?_)
  refine lv_aload_n hx hb (dk DX11_isFigure 2 rfl) rfl (lv_at hl 0 rfl) ?_
  refine lv_bipush (v := (48 : Int32)) hx hb (dk DX11_isFigure 3 rfl) (by decide) ?_
  refine lv_bipush (v := (57 : Int32)) hx hb (dk DX11_isFigure 4 rfl) (by decide) ?_
  obtain ⟨zq6, mq4, hzq5, hF⟩ := bnd_ex hF
  refine r_callVi (As := [.int (48 : Int32), .int (57 : Int32)]) (rest := []) C hR (C_M_isAt l hl0 G (48 : Int32) (57 : Int32) mq1 _ _ hzq5) (by decide) (by decide) ob78 rfl wX11_80 rfl rfl (Nat.le_of_ble_eq_true rfl) hl.1 ⟨Nat.zero_le _, Nat.zero_le _⟩ (dk DX11_isFigure 5 rfl) (fun H locs hR => ?_)
  cases hF
  exact r_zret C hrt hR (dk DX11_isFigure 6 rfl)
set_option maxHeartbeats 4000000 in
set_option maxRecDepth 100000 in
theorem C_M_readSet (l : Launch) (hl0 : l.stackTraces = false) (G : GG) (a1 : Int32) (m0 : Mem) (v : Bool) (m' : Mem) (hF : F_M_readSet a1 m0 = some (v, m')) : Ct l G mr0 N0 yX11_readSet cX11_readSet 3 (some .boolean) 4 [.ref (G.2.1 + 78), .int a1] m0 (some (.int (b2i v))) m' := by
  refine Ct_of hl0 (by decide) (Nat.le_of_ble_eq_true rfl) ?_
  intro p e s mid args below meth c ls C hrt hl hR
  have hx := C.1.1
  have hb := C.1.2.1
  have hl : lv_has ls 3 [(0, .ref (G.2.1 + 78)), (1, .int a1)] := hl
  unfold F_M_readSet at hF
  have L0 : ∀ (nf : Nat) (mq1 : Mem) (H : Heap) (locs : List Loc) (ls : Array Slot), lv_has ls 3 [(0, .ref (G.2.1 + 78)), (1, .int a1)] → Rp G mr0 N0 mq1 s H locs → F_M_readSet_L0 a1 nf mq1 = some (v, m') → W p l e (rmD 4) s mid args below meth c H locs 0 0 (MQ below (QR G mr0 N0 (some (.int (b2i v))) m') args s 0 0 (fun q => G.2.1 ≤ q)) (F0 mid 0 ls []) := by
    intro nf
    induction nf with
    | zero =>
      intro mq1 H locs ls hl hR hF
      rw [F_M_readSet_L0] at hF
      cases hF
    | succ nf ihq3 =>
      intro mq1 H locs ls hl hR hF
      rw [F_M_readSet_L0] at hF
      refine lv_aload_n hx hb (dk DX11_readSet 0 rfl) rfl (lv_at hl 0 rfl) ?_
      refine lv_iconst (v := (0 : Int32)) hx hb (dk DX11_readSet 1 rfl) (by decide) ?_
      refine lv_bipush (v := (8 : Int32)) hx hb (dk DX11_readSet 2 rfl) (by decide) ?_
      obtain ⟨xq6, mq4, hzq5, hF⟩ := bnd_ex hF
      refine r_callVi (As := [.int (0 : Int32), .int (8 : Int32)]) (rest := []) C hR (C_M_number l hl0 G (0 : Int32) (8 : Int32) mq1 _ _ hzq5) (by decide) (by decide) ob78 rfl wX11_106 rfl rfl (Nat.le_of_ble_eq_true rfl) hl.1 ⟨Nat.zero_le _, Nat.zero_le _⟩ (dk DX11_readSet 3 rfl) (fun H locs hR => ?_)
      refine lv_istore_n (lv' := [(2, .int xq6), (0, .ref (G.2.1 + 78)), (1, .int a1)]) hx hb (dk DX11_readSet 4 rfl) rfl hl (by decide) rfl (fun ls hl => ?_)
      refine lv_iload_n hx hb (dk DX11_readSet 5 rfl) rfl (lv_at hl 0 rfl) ?_
      refine lv_if_ge (tgt := 14) hx hb (dk DX11_readSet 6 rfl) (by decide) (fun c9 => ?_) (fun c9 => ?_)
      · have hF := if_t c9 hF
        refine lv_aload_n hx hb (dk DX11_readSet 9 rfl) rfl (lv_at hl 1 rfl) ?_
        refine gX11_13 C hR ob78 rf78_1 (dk DX11_readSet 10 rfl) ?_
        refine lv_iload_n hx hb (dk DX11_readSet 11 rfl) rfl (lv_at hl 2 rfl) ?_
        refine lv_dup2_11 hx hb (dk DX11_readSet 12 rfl) rfl rfl ?_
        obtain ⟨hq7, hF⟩ := ckB_ex hF
        refine r_iald C hR ob79 hq7 (dk DX11_readSet 13 rfl) ?_
        refine lv_topi (fun xq8 exq8 => ?_)
        have hF := lt_at exq8 hF
        refine lv_iconst (v := (1 : Int32)) hx hb (dk DX11_readSet 14 rfl) (by decide) ?_
        refine lv_iload_n hx hb (dk DX11_readSet 15 rfl) rfl (lv_at hl 0 rfl) ?_
        refine lv_ishl hx hb (dk DX11_readSet 16 rfl) ?_
        refine lv_ior hx hb (dk DX11_readSet 17 rfl) ?_
        obtain ⟨hq10, hF⟩ := ckB_ex hF
        refine r_iast C hR ob79 hq10 (dk DX11_readSet 18 rfl) (fun H locs hR => ?_)
        obtain ⟨mq9, emq9, hF⟩ := lt_ex hF
        have hR := Rp_at emq9 hR
        refine lv_aload_n hx hb (dk DX11_readSet 19 rfl) rfl (lv_at hl 1 rfl) ?_
        obtain ⟨zq13, mq11, hzq12, hF⟩ := bnd_ex hF
        refine r_callVi (As := []) (rest := []) C hR (C_M_isFigure l hl0 G mq9 _ _ hzq12) (by decide) (by decide) ob78 rfl wX11_122 rfl rfl (Nat.le_of_ble_eq_true rfl) hl.1 ⟨Nat.zero_le _, Nat.zero_le _⟩ (dk DX11_readSet 20 rfl) (fun H locs hR => ?_)
        refine z_ifne (tgt := 0) hx hb (dk DX11_readSet 21 rfl) (by decide) (fun c30 => ?_) (fun c30 => ?_)
        · have hF := if_t c30 hF
          exact ihq3 mq11 _ _ ls (lv_sub hl [1, 2] rfl) hR hF
        · have hF := if_f c30 hF
          refine lv_iconst (v := (1 : Int32)) hx hb (dk DX11_readSet 22 rfl) (by decide) ?_
          cases hF
          exact r_zret C hrt hR (dk DX11_readSet 23 rfl)
      · have hF := if_f c9 hF
        refine lv_iconst (v := (0 : Int32)) hx hb (dk DX11_readSet 7 rfl) (by decide) ?_
        cases hF
        exact r_zret C hrt hR (dk DX11_readSet 8 rfl)
  exact L0 1000000 m0 _ _ ls (lv_sub hl [0, 1] rfl) hR hF
set_option maxHeartbeats 4000000 in
set_option maxRecDepth 100000 in
theorem C_M_after_LjavalangStringIII (l : Launch) (hl0 : l.stackTraces = false) (G : GG) (tx1 : String) (a2 : Int32) (a3 : Int32) (m0 : Mem) (htx_tx1 : tx1 ∈ strL.map (fun q => q.2.2)) (v : Int32) (m' : Mem) (hF : F_M_after_LjavalangStringIII tx1 a2 a3 m0 = some (v, m')) : Ct l G mr0 N0 yX11_after cX11_after 4 (some .int) 10 [.ref (G.2.1 + 78), .ref (G.2.2.2.2.2.2 tx1), .int a2, .int a3] m0 (some (.int v)) m' := by
  refine Ct_of hl0 (by decide) (Nat.le_of_ble_eq_true rfl) ?_
  intro p e s mid args below meth c ls C hrt hl hR
  have hx := C.1.1
  have hb := C.1.2.1
  have hl : lv_has ls 4 [(0, .ref (G.2.1 + 78)), (1, .ref (G.2.2.2.2.2.2 tx1)), (2, .int a2), (3, .int a3)] := hl
  unfold F_M_after_LjavalangStringIII at hF
  refine lv_aload_n hx hb (dk DX11_after 0 rfl) rfl (lv_at hl 0 rfl) ?_
  obtain ⟨uq3, mq1, hzq2, hF⟩ := bnd_ex hF
  refine r_callVv (As := []) (rest := []) C hR (C_M_letters l hl0 G m0 _ _ hzq2) (by decide) (by decide) ob78 rfl wX11_99 rfl rfl (Nat.le_of_ble_eq_true rfl) hl.1 ⟨Nat.zero_le _, Nat.zero_le _⟩ (dk DX11_after 1 rfl) (fun H locs hR => ?_)
  refine lv_aload_n hx hb (dk DX11_after 2 rfl) rfl (lv_at hl 0 rfl) ?_
  refine lv_aload_n hx hb (dk DX11_after 3 rfl) rfl (lv_at hl 1 rfl) ?_
  obtain ⟨zq6, mq4, hzq5, hF⟩ := bnd_ex hF
  refine r_callVi (As := [.ref (G.2.2.2.2.2.2 tx1)]) (rest := []) C hR (C_M_isWord l hl0 G tx1 mq1 htx_tx1 _ _ hzq5) (by decide) (by decide) ob78 rfl wX11_102 rfl rfl (Nat.le_of_ble_eq_true rfl) hl.1 ⟨Nat.zero_le _, Nat.zero_le _⟩ (dk DX11_after 4 rfl) (fun H locs hR => ?_)
  refine z_ifeq (tgt := 21) hx hb (dk DX11_after 5 rfl) (by decide) (fun c9 => ?_) (fun c9 => ?_)
  · have hF := if_f c9 hF
    refine lv_iconst (v := (-1 : Int32)) hx hb (dk DX11_after 11 rfl) (by decide) ?_
    cases hF
    exact r_iret C hrt hR (dk DX11_after 12 rfl)
  · have hF := if_t c9 hF
    refine lv_aload_n hx hb (dk DX11_after 6 rfl) rfl (lv_at hl 0 rfl) ?_
    refine lv_iload_n hx hb (dk DX11_after 7 rfl) rfl (lv_at hl 2 rfl) ?_
    refine lv_iload_n hx hb (dk DX11_after 8 rfl) rfl (lv_at hl 3 rfl) ?_
    obtain ⟨xq9, mq7, hzq8, hF⟩ := bnd_ex hF
    refine r_callVi (As := [.int a2, .int a3]) (rest := []) C hR (C_M_number l hl0 G a2 a3 mq4 _ _ hzq8) (by decide) (by decide) ob78 rfl wX11_106 rfl rfl (Nat.le_of_ble_eq_true rfl) hl.1 ⟨Nat.zero_le _, Nat.zero_le _⟩ (dk DX11_after 9 rfl) (fun H locs hR => ?_)
    refine lv_goto (tgt := 22) hx hb (dk DX11_after 10 rfl) (by decide) ?_
    cases hF
    exact r_iret C hrt hR (dk DX11_after 12 rfl)
set_option maxHeartbeats 4000000 in
set_option maxRecDepth 100000 in
theorem C_M_readSlot (l : Launch) (hl0 : l.stackTraces = false) (G : GG) (m0 : Mem) (v : Bool) (m' : Mem) (hF : F_M_readSlot m0 = some (v, m')) : Ct l G mr0 N0 yX11_readSlot cX11_readSlot 5 (some .boolean) 11 [.ref (G.2.1 + 78)] m0 (some (.int (b2i v))) m' := by
  refine Ct_of hl0 (by decide) (Nat.le_of_ble_eq_true rfl) ?_
  intro p e s mid args below meth c ls C hrt hl hR
  have hx := C.1.1
  have hb := C.1.2.1
  have hl : lv_has ls 5 [(0, .ref (G.2.1 + 78))] := hl
  unfold F_M_readSlot at hF
  refine lv_aload_n hx hb (dk DX11_readSlot 0 rfl) rfl (lv_at hl 0 rfl) ?_
  refine lv_iconst (v := (0 : Int32)) hx hb (dk DX11_readSlot 1 rfl) (by decide) ?_
  refine lv_iconst (v := (3 : Int32)) hx hb (dk DX11_readSlot 2 rfl) (by decide) ?_
  obtain ⟨xq3, mq1, hzq2, hF⟩ := bnd_ex hF
  refine r_callVi (As := [.int (0 : Int32), .int (3 : Int32)]) (rest := []) C hR (C_M_number l hl0 G (0 : Int32) (3 : Int32) m0 _ _ hzq2) (by decide) (by decide) ob78 rfl wX11_106 rfl rfl (Nat.le_of_ble_eq_true rfl) hl.1 ⟨Nat.zero_le _, Nat.zero_le _⟩ (dk DX11_readSlot 3 rfl) (fun H locs hR => ?_)
  refine lv_istore_n (lv' := [(1, .int xq3), (0, .ref (G.2.1 + 78))]) hx hb (dk DX11_readSlot 4 rfl) rfl hl (by decide) rfl (fun ls hl => ?_)
  refine lv_iload_n hx hb (dk DX11_readSlot 5 rfl) rfl (lv_at hl 0 rfl) ?_
  obtain ⟨k21_5, ek21_5, hF⟩ := lt_ex hF
  have J21 : ∀ (xq5 : Int32) (mq4 : Mem) (H : Heap) (locs : List Loc) (ls : Array Slot), lv_has ls 5 [(0, .ref (G.2.1 + 78)), (1, .int xq3)] → Rp G mr0 N0 mq4 s H locs → k21_5 xq5 mq4 = some (v, m') → W p l e (rmD 11) s mid args below meth c H locs 0 0 (MQ below (QR G mr0 N0 (some (.int (b2i v))) m') args s 0 0 (fun q => G.2.1 ≤ q)) (F0 mid 21 ls [.int xq5]) := by
    intro xq5 mq4 H locs ls hl hR hF
    rw [ek21_5] at hF
    refine lv_istore_n (lv' := [(2, .int xq5), (0, .ref (G.2.1 + 78)), (1, .int xq3)]) hx hb (dk DX11_readSlot 13 rfl) rfl hl (by decide) rfl (fun ls hl => ?_)
    refine lv_iload_n hx hb (dk DX11_readSlot 14 rfl) rfl (lv_at hl 0 rfl) ?_
    obtain ⟨k39_7, ek39_7, hF⟩ := lt_ex hF
    have J39 : ∀ (xq7 : Int32) (mq6 : Mem) (H : Heap) (locs : List Loc) (ls : Array Slot), lv_has ls 5 [(0, .ref (G.2.1 + 78)), (1, .int xq3), (2, .int xq5)] → Rp G mr0 N0 mq6 s H locs → k39_7 xq7 mq6 = some (v, m') → W p l e (rmD 11) s mid args below meth c H locs 0 0 (MQ below (QR G mr0 N0 (some (.int (b2i v))) m') args s 0 0 (fun q => G.2.1 ≤ q)) (F0 mid 39 ls [.int xq7]) := by
      intro xq7 mq6 H locs ls hl hR hF
      rw [ek39_7] at hF
      refine lv_istore_n (lv' := [(3, .int xq7), (0, .ref (G.2.1 + 78)), (1, .int xq3), (2, .int xq5)]) hx hb (dk DX11_readSlot 23 rfl) rfl hl (by decide) rfl (fun ls hl => ?_)
      refine lv_iload_n hx hb (dk DX11_readSlot 24 rfl) rfl (lv_at hl 0 rfl) ?_
      obtain ⟨k57_9, ek57_9, hF⟩ := lt_ex hF
      have J57 : ∀ (xq9 : Int32) (mq8 : Mem) (H : Heap) (locs : List Loc) (ls : Array Slot), lv_has ls 5 [(0, .ref (G.2.1 + 78)), (1, .int xq3), (2, .int xq5), (3, .int xq7)] → Rp G mr0 N0 mq8 s H locs → k57_9 xq9 mq8 = some (v, m') → W p l e (rmD 11) s mid args below meth c H locs 0 0 (MQ below (QR G mr0 N0 (some (.int (b2i v))) m') args s 0 0 (fun q => G.2.1 ≤ q)) (F0 mid 57 ls [.int xq9]) := by
        intro xq9 mq8 H locs ls hl hR hF
        rw [ek57_9] at hF
        refine lv_istore (lv' := [(4, .int xq9), (0, .ref (G.2.1 + 78)), (1, .int xq3), (2, .int xq5), (3, .int xq7)]) hx hb (dk DX11_readSlot 33 rfl) hl (by decide) rfl (fun ls hl => ?_)
        refine lv_iload hx hb (dk DX11_readSlot 34 rfl) (lv_at hl 0 rfl) ?_
        refine lv_if_ge (tgt := 66) hx hb (dk DX11_readSlot 35 rfl) (by decide) (fun c61 => ?_) (fun c61 => ?_)
        · have hF := if_t c61 hF
          refine lv_aload_n hx hb (dk DX11_readSlot 38 rfl) rfl (lv_at hl 1 rfl) ?_
          refine gX11_13 C hR ob78 rf78_1 (dk DX11_readSlot 39 rfl) ?_
          refine lv_bipush (v := (23 : Int32)) hx hb (dk DX11_readSlot 40 rfl) (by decide) ?_
          refine lv_iconst (v := (2 : Int32)) hx hb (dk DX11_readSlot 41 rfl) (by decide) ?_
          refine lv_iconst (v := (4 : Int32)) hx hb (dk DX11_readSlot 42 rfl) (by decide) ?_
          refine lv_iload_n hx hb (dk DX11_readSlot 43 rfl) rfl (lv_at hl 2 rfl) ?_
          refine lv_imul hx hb (dk DX11_readSlot 44 rfl) ?_
          refine lv_iload_n hx hb (dk DX11_readSlot 45 rfl) rfl (lv_at hl 3 rfl) ?_
          refine lv_iadd hx hb (dk DX11_readSlot 46 rfl) ?_
          refine lv_imul hx hb (dk DX11_readSlot 47 rfl) ?_
          refine lv_iadd hx hb (dk DX11_readSlot 48 rfl) ?_
          refine lv_topi (fun xq10 exq10 => ?_)
          have hF := lt_at exq10 hF
          refine lv_iload_n hx hb (dk DX11_readSlot 49 rfl) rfl (lv_at hl 4 rfl) ?_
          obtain ⟨hq12, hF⟩ := ckB_ex hF
          refine r_iast C hR ob79 hq12 (dk DX11_readSlot 50 rfl) (fun H locs hR => ?_)
          obtain ⟨mq11, emq11, hF⟩ := lt_ex hF
          have hR := Rp_at emq11 hR
          refine lv_aload_n hx hb (dk DX11_readSlot 51 rfl) rfl (lv_at hl 1 rfl) ?_
          refine gX11_13 C hR ob78 rf78_1 (dk DX11_readSlot 52 rfl) ?_
          refine lv_bipush (v := (23 : Int32)) hx hb (dk DX11_readSlot 53 rfl) (by decide) ?_
          refine lv_iconst (v := (2 : Int32)) hx hb (dk DX11_readSlot 54 rfl) (by decide) ?_
          refine lv_iconst (v := (4 : Int32)) hx hb (dk DX11_readSlot 55 rfl) (by decide) ?_
          refine lv_iload_n hx hb (dk DX11_readSlot 56 rfl) rfl (lv_at hl 2 rfl) ?_
          refine lv_imul hx hb (dk DX11_readSlot 57 rfl) ?_
          refine lv_iload_n hx hb (dk DX11_readSlot 58 rfl) rfl (lv_at hl 3 rfl) ?_
          refine lv_iadd hx hb (dk DX11_readSlot 59 rfl) ?_
          refine lv_imul hx hb (dk DX11_readSlot 60 rfl) ?_
          refine lv_iadd hx hb (dk DX11_readSlot 61 rfl) ?_
          refine lv_topi (fun xq13 exq13 => ?_)
          have hF := lt_at exq13 hF
          refine lv_iconst (v := (1 : Int32)) hx hb (dk DX11_readSlot 62 rfl) (by decide) ?_
          refine lv_iadd hx hb (dk DX11_readSlot 63 rfl) ?_
          refine lv_iload hx hb (dk DX11_readSlot 64 rfl) (lv_at hl 0 rfl) ?_
          obtain ⟨hq15, hF⟩ := ckB_ex hF
          refine r_iast C hR ob79 hq15 (dk DX11_readSlot 65 rfl) (fun H locs hR => ?_)
          obtain ⟨mq14, emq14, hF⟩ := lt_ex hF
          have hR := Rp_at emq14 hR
          refine lv_iconst (v := (1 : Int32)) hx hb (dk DX11_readSlot 66 rfl) (by decide) ?_
          cases hF
          exact r_zret C hrt hR (dk DX11_readSlot 67 rfl)
        · have hF := if_f c61 hF
          refine lv_iconst (v := (0 : Int32)) hx hb (dk DX11_readSlot 36 rfl) (by decide) ?_
          cases hF
          exact r_zret C hrt hR (dk DX11_readSlot 37 rfl)
      refine lv_if_ge (tgt := 48) hx hb (dk DX11_readSlot 25 rfl) (by decide) (fun c41 => ?_) (fun c41 => ?_)
      · have hF := if_t c41 hF
        refine lv_aload_n hx hb (dk DX11_readSlot 28 rfl) rfl (lv_at hl 1 rfl) ?_
        refine r_lds C (strm_X11_120) (dk DX11_readSlot 29 rfl) ?_
        refine lv_iconst (v := (0 : Int32)) hx hb (dk DX11_readSlot 30 rfl) (by decide) ?_
        refine lv_bipush (v := (9 : Int32)) hx hb (dk DX11_readSlot 31 rfl) (by decide) ?_
        obtain ⟨xq18, mq16, hzq17, hF⟩ := bnd_ex hF
        refine r_callVi (As := [.ref (G.2.2.2.2.2.2 ("outs")), .int (0 : Int32), .int (9 : Int32)]) (rest := []) C hR (C_M_after_LjavalangStringIII l hl0 G ("outs") (0 : Int32) (9 : Int32) mq6 txm_6 _ _ hzq17) (by decide) (by decide) ob78 rfl wX11_112 rfl rfl (Nat.le_of_ble_eq_true rfl) hl.1 ⟨Nat.zero_le _, Nat.zero_le _⟩ (dk DX11_readSlot 32 rfl) (fun H locs hR => ?_)
        exact J57 xq18 mq16 _ _ ls (lv_sub hl [1, 2, 3, 0] rfl) hR hF
      · have hF := if_f c41 hF
        refine lv_iconst (v := (-1 : Int32)) hx hb (dk DX11_readSlot 26 rfl) (by decide) ?_
        refine lv_goto (tgt := 57) hx hb (dk DX11_readSlot 27 rfl) (by decide) ?_
        exact J57 (-1 : Int32) mq6 _ _ ls (lv_sub hl [1, 2, 3, 0] rfl) hR hF
    refine lv_if_ge (tgt := 30) hx hb (dk DX11_readSlot 15 rfl) (by decide) (fun c23 => ?_) (fun c23 => ?_)
    · have hF := if_t c23 hF
      refine lv_aload_n hx hb (dk DX11_readSlot 18 rfl) rfl (lv_at hl 1 rfl) ?_
      refine r_lds C (strm_X11_118) (dk DX11_readSlot 19 rfl) ?_
      refine lv_iconst (v := (0 : Int32)) hx hb (dk DX11_readSlot 20 rfl) (by decide) ?_
      refine lv_bipush (v := (9 : Int32)) hx hb (dk DX11_readSlot 21 rfl) (by decide) ?_
      obtain ⟨xq21, mq19, hzq20, hF⟩ := bnd_ex hF
      refine r_callVi (As := [.ref (G.2.2.2.2.2.2 ("runs")), .int (0 : Int32), .int (9 : Int32)]) (rest := []) C hR (C_M_after_LjavalangStringIII l hl0 G ("runs") (0 : Int32) (9 : Int32) mq4 txm_5 _ _ hzq20) (by decide) (by decide) ob78 rfl wX11_112 rfl rfl (Nat.le_of_ble_eq_true rfl) hl.1 ⟨Nat.zero_le _, Nat.zero_le _⟩ (dk DX11_readSlot 22 rfl) (fun H locs hR => ?_)
      exact J39 xq21 mq19 _ _ ls (lv_sub hl [1, 2, 0] rfl) hR hF
    · have hF := if_f c23 hF
      refine lv_iconst (v := (-1 : Int32)) hx hb (dk DX11_readSlot 16 rfl) (by decide) ?_
      refine lv_goto (tgt := 39) hx hb (dk DX11_readSlot 17 rfl) (by decide) ?_
      exact J39 (-1 : Int32) mq4 _ _ ls (lv_sub hl [1, 2, 0] rfl) hR hF
  refine lv_if_ge (tgt := 15) hx hb (dk DX11_readSlot 6 rfl) (by decide) (fun c8 => ?_) (fun c8 => ?_)
  · have hF := if_t c8 hF
    refine lv_aload_n hx hb (dk DX11_readSlot 9 rfl) rfl (lv_at hl 1 rfl) ?_
    refine lv_iconst (v := (0 : Int32)) hx hb (dk DX11_readSlot 10 rfl) (by decide) ?_
    refine lv_iconst (v := (3 : Int32)) hx hb (dk DX11_readSlot 11 rfl) (by decide) ?_
    obtain ⟨xq24, mq22, hzq23, hF⟩ := bnd_ex hF
    refine r_callVi (As := [.int (0 : Int32), .int (3 : Int32)]) (rest := []) C hR (C_M_number l hl0 G (0 : Int32) (3 : Int32) mq1 _ _ hzq23) (by decide) (by decide) ob78 rfl wX11_106 rfl rfl (Nat.le_of_ble_eq_true rfl) hl.1 ⟨Nat.zero_le _, Nat.zero_le _⟩ (dk DX11_readSlot 12 rfl) (fun H locs hR => ?_)
    exact J21 xq24 mq22 _ _ ls (lv_sub hl [1, 0] rfl) hR hF
  · have hF := if_f c8 hF
    refine lv_iconst (v := (-1 : Int32)) hx hb (dk DX11_readSlot 7 rfl) (by decide) ?_
    refine lv_goto (tgt := 21) hx hb (dk DX11_readSlot 8 rfl) (by decide) ?_
    exact J21 (-1 : Int32) mq1 _ _ ls (lv_sub hl [1, 0] rfl) hR hF
set_option maxHeartbeats 4000000 in
set_option maxRecDepth 100000 in
theorem C_M_readSide (l : Launch) (hl0 : l.stackTraces = false) (G : GG) (m0 : Mem) (v : Bool) (m' : Mem) (hF : F_M_readSide m0 = some (v, m')) : Ct l G mr0 N0 yX11_readSide cX11_readSide 4 (some .boolean) 11 [.ref (G.2.1 + 78)] m0 (some (.int (b2i v))) m' := by
  refine Ct_of hl0 (by decide) (Nat.le_of_ble_eq_true rfl) ?_
  intro p e s mid args below meth c ls C hrt hl hR
  have hx := C.1.1
  have hb := C.1.2.1
  have hl : lv_has ls 4 [(0, .ref (G.2.1 + 78))] := hl
  unfold F_M_readSide at hF
  refine lv_aload_n hx hb (dk DX11_readSide 0 rfl) rfl (lv_at hl 0 rfl) ?_
  refine lv_iconst (v := (0 : Int32)) hx hb (dk DX11_readSide 1 rfl) (by decide) ?_
  refine lv_iconst (v := (1 : Int32)) hx hb (dk DX11_readSide 2 rfl) (by decide) ?_
  obtain ⟨xq3, mq1, hzq2, hF⟩ := bnd_ex hF
  refine r_callVi (As := [.int (0 : Int32), .int (1 : Int32)]) (rest := []) C hR (C_M_number l hl0 G (0 : Int32) (1 : Int32) m0 _ _ hzq2) (by decide) (by decide) ob78 rfl wX11_106 rfl rfl (Nat.le_of_ble_eq_true rfl) hl.1 ⟨Nat.zero_le _, Nat.zero_le _⟩ (dk DX11_readSide 3 rfl) (fun H locs hR => ?_)
  refine lv_istore_n (lv' := [(1, .int xq3), (0, .ref (G.2.1 + 78))]) hx hb (dk DX11_readSide 4 rfl) rfl hl (by decide) rfl (fun ls hl => ?_)
  refine lv_iload_n hx hb (dk DX11_readSide 5 rfl) rfl (lv_at hl 0 rfl) ?_
  obtain ⟨k24_5, ek24_5, hF⟩ := lt_ex hF
  have J24 : ∀ (xq5 : Int32) (mq4 : Mem) (H : Heap) (locs : List Loc) (ls : Array Slot), lv_has ls 4 [(0, .ref (G.2.1 + 78)), (1, .int xq3)] → Rp G mr0 N0 mq4 s H locs → k24_5 xq5 mq4 = some (v, m') → W p l e (rmD 11) s mid args below meth c H locs 0 0 (MQ below (QR G mr0 N0 (some (.int (b2i v))) m') args s 0 0 (fun q => G.2.1 ≤ q)) (F0 mid 24 ls [.int xq5]) := by
    intro xq5 mq4 H locs ls hl hR hF
    rw [ek24_5] at hF
    refine lv_istore_n (lv' := [(2, .int xq5), (0, .ref (G.2.1 + 78)), (1, .int xq3)]) hx hb (dk DX11_readSide 14 rfl) rfl hl (by decide) rfl (fun ls hl => ?_)
    refine lv_iload_n hx hb (dk DX11_readSide 15 rfl) rfl (lv_at hl 0 rfl) ?_
    obtain ⟨k42_7, ek42_7, hF⟩ := lt_ex hF
    have J42 : ∀ (xq7 : Int32) (mq6 : Mem) (H : Heap) (locs : List Loc) (ls : Array Slot), lv_has ls 4 [(0, .ref (G.2.1 + 78)), (1, .int xq3), (2, .int xq5)] → Rp G mr0 N0 mq6 s H locs → k42_7 xq7 mq6 = some (v, m') → W p l e (rmD 11) s mid args below meth c H locs 0 0 (MQ below (QR G mr0 N0 (some (.int (b2i v))) m') args s 0 0 (fun q => G.2.1 ≤ q)) (F0 mid 42 ls [.int xq7]) := by
      intro xq7 mq6 H locs ls hl hR hF
      rw [ek42_7] at hF
      refine lv_istore_n (lv' := [(3, .int xq7), (0, .ref (G.2.1 + 78)), (1, .int xq3), (2, .int xq5)]) hx hb (dk DX11_readSide 24 rfl) rfl hl (by decide) rfl (fun ls hl => ?_)
      refine lv_iload_n hx hb (dk DX11_readSide 25 rfl) rfl (lv_at hl 0 rfl) ?_
      refine lv_if_ge (tgt := 49) hx hb (dk DX11_readSide 26 rfl) (by decide) (fun c44 => ?_) (fun c44 => ?_)
      · have hF := if_t c44 hF
        refine lv_aload_n hx hb (dk DX11_readSide 29 rfl) rfl (lv_at hl 1 rfl) ?_
        refine gX11_13 C hR ob78 rf78_1 (dk DX11_readSide 30 rfl) ?_
        refine lv_bipush (v := (19 : Int32)) hx hb (dk DX11_readSide 31 rfl) (by decide) ?_
        refine lv_iconst (v := (2 : Int32)) hx hb (dk DX11_readSide 32 rfl) (by decide) ?_
        refine lv_iload_n hx hb (dk DX11_readSide 33 rfl) rfl (lv_at hl 2 rfl) ?_
        refine lv_imul hx hb (dk DX11_readSide 34 rfl) ?_
        refine lv_iadd hx hb (dk DX11_readSide 35 rfl) ?_
        refine lv_iload_n hx hb (dk DX11_readSide 36 rfl) rfl (lv_at hl 3 rfl) ?_
        obtain ⟨hq9, hF⟩ := ckB_ex hF
        refine r_iast C hR ob79 hq9 (dk DX11_readSide 37 rfl) (fun H locs hR => ?_)
        obtain ⟨mq8, emq8, hF⟩ := lt_ex hF
        have hR := Rp_at emq8 hR
        refine lv_aload_n hx hb (dk DX11_readSide 38 rfl) rfl (lv_at hl 1 rfl) ?_
        refine gX11_13 C hR ob78 rf78_1 (dk DX11_readSide 39 rfl) ?_
        refine lv_bipush (v := (19 : Int32)) hx hb (dk DX11_readSide 40 rfl) (by decide) ?_
        refine lv_iconst (v := (2 : Int32)) hx hb (dk DX11_readSide 41 rfl) (by decide) ?_
        refine lv_iload_n hx hb (dk DX11_readSide 42 rfl) rfl (lv_at hl 2 rfl) ?_
        refine lv_imul hx hb (dk DX11_readSide 43 rfl) ?_
        refine lv_iadd hx hb (dk DX11_readSide 44 rfl) ?_
        refine lv_iconst (v := (1 : Int32)) hx hb (dk DX11_readSide 45 rfl) (by decide) ?_
        refine lv_iadd hx hb (dk DX11_readSide 46 rfl) ?_
        refine lv_topi (fun xq10 exq10 => ?_)
        have hF := lt_at exq10 hF
        refine lv_iload_n hx hb (dk DX11_readSide 47 rfl) rfl (lv_at hl 0 rfl) ?_
        obtain ⟨hq12, hF⟩ := ckB_ex hF
        refine r_iast C hR ob79 hq12 (dk DX11_readSide 48 rfl) (fun H locs hR => ?_)
        obtain ⟨mq11, emq11, hF⟩ := lt_ex hF
        have hR := Rp_at emq11 hR
        refine lv_iconst (v := (1 : Int32)) hx hb (dk DX11_readSide 49 rfl) (by decide) ?_
        cases hF
        exact r_zret C hrt hR (dk DX11_readSide 50 rfl)
      · have hF := if_f c44 hF
        refine lv_iconst (v := (0 : Int32)) hx hb (dk DX11_readSide 27 rfl) (by decide) ?_
        cases hF
        exact r_zret C hrt hR (dk DX11_readSide 28 rfl)
    refine lv_if_ge (tgt := 33) hx hb (dk DX11_readSide 16 rfl) (by decide) (fun c26 => ?_) (fun c26 => ?_)
    · have hF := if_t c26 hF
      refine lv_aload_n hx hb (dk DX11_readSide 19 rfl) rfl (lv_at hl 1 rfl) ?_
      refine r_lds C (strm_X11_116) (dk DX11_readSide 20 rfl) ?_
      refine lv_iconst (v := (0 : Int32)) hx hb (dk DX11_readSide 21 rfl) (by decide) ?_
      refine lv_bipush (v := (9 : Int32)) hx hb (dk DX11_readSide 22 rfl) (by decide) ?_
      obtain ⟨xq15, mq13, hzq14, hF⟩ := bnd_ex hF
      refine r_callVi (As := [.ref (G.2.2.2.2.2.2 ("bowl")), .int (0 : Int32), .int (9 : Int32)]) (rest := []) C hR (C_M_after_LjavalangStringIII l hl0 G ("bowl") (0 : Int32) (9 : Int32) mq4 txm_3 _ _ hzq14) (by decide) (by decide) ob78 rfl wX11_112 rfl rfl (Nat.le_of_ble_eq_true rfl) hl.1 ⟨Nat.zero_le _, Nat.zero_le _⟩ (dk DX11_readSide 23 rfl) (fun H locs hR => ?_)
      exact J42 xq15 mq13 _ _ ls (lv_sub hl [1, 2, 0] rfl) hR hF
    · have hF := if_f c26 hF
      refine lv_iconst (v := (-1 : Int32)) hx hb (dk DX11_readSide 17 rfl) (by decide) ?_
      refine lv_goto (tgt := 42) hx hb (dk DX11_readSide 18 rfl) (by decide) ?_
      exact J42 (-1 : Int32) mq4 _ _ ls (lv_sub hl [1, 2, 0] rfl) hR hF
  refine lv_if_ge (tgt := 15) hx hb (dk DX11_readSide 6 rfl) (by decide) (fun c8 => ?_) (fun c8 => ?_)
  · have hF := if_t c8 hF
    refine lv_aload_n hx hb (dk DX11_readSide 9 rfl) rfl (lv_at hl 1 rfl) ?_
    refine r_lds C (strm_X11_110) (dk DX11_readSide 10 rfl) ?_
    refine lv_iconst (v := (0 : Int32)) hx hb (dk DX11_readSide 11 rfl) (by decide) ?_
    refine lv_bipush (v := (9 : Int32)) hx hb (dk DX11_readSide 12 rfl) (by decide) ?_
    obtain ⟨xq18, mq16, hzq17, hF⟩ := bnd_ex hF
    refine r_callVi (As := [.ref (G.2.2.2.2.2.2 ("bat")), .int (0 : Int32), .int (9 : Int32)]) (rest := []) C hR (C_M_after_LjavalangStringIII l hl0 G ("bat") (0 : Int32) (9 : Int32) mq1 txm_2 _ _ hzq17) (by decide) (by decide) ob78 rfl wX11_112 rfl rfl (Nat.le_of_ble_eq_true rfl) hl.1 ⟨Nat.zero_le _, Nat.zero_le _⟩ (dk DX11_readSide 13 rfl) (fun H locs hR => ?_)
    exact J24 xq18 mq16 _ _ ls (lv_sub hl [1, 0] rfl) hR hF
  · have hF := if_f c8 hF
    refine lv_iconst (v := (-1 : Int32)) hx hb (dk DX11_readSide 7 rfl) (by decide) ?_
    refine lv_goto (tgt := 24) hx hb (dk DX11_readSide 8 rfl) (by decide) ?_
    exact J24 (-1 : Int32) mq1 _ _ ls (lv_sub hl [1, 0] rfl) hR hF
set_option maxHeartbeats 4000000 in
set_option maxRecDepth 100000 in
theorem C_M_readSessions (l : Launch) (hl0 : l.stackTraces = false) (G : GG) (m0 : Mem) (v : Bool) (m' : Mem) (hF : F_M_readSessions m0 = some (v, m')) : Ct l G mr0 N0 yX11_readSessions cX11_readSessions 2 (some .boolean) 4 [.ref (G.2.1 + 78)] m0 (some (.int (b2i v))) m' := by
  refine Ct_of hl0 (by decide) (Nat.le_of_ble_eq_true rfl) ?_
  intro p e s mid args below meth c ls C hrt hl hR
  have hx := C.1.1
  have hb := C.1.2.1
  have hl : lv_has ls 2 [(0, .ref (G.2.1 + 78))] := hl
  unfold F_M_readSessions at hF
  refine lv_aload_n hx hb (dk DX11_readSessions 0 rfl) rfl (lv_at hl 0 rfl) ?_
  refine gX11_13 C hR ob78 rf78_1 (dk DX11_readSessions 1 rfl) ?_
  refine lv_bipush (v := (10 : Int32)) hx hb (dk DX11_readSessions 2 rfl) (by decide) ?_
  refine r_iald C hR ob79 rfl (dk DX11_readSessions 3 rfl) ?_
  refine lv_if_lt (tgt := 12) hx hb (dk DX11_readSessions 4 rfl) (by decide) (fun c7 => ?_) (fun c7 => ?_)
  · have hF := if_t c7 hF
    refine lv_aload_n hx hb (dk DX11_readSessions 7 rfl) rfl (lv_at hl 0 rfl) ?_
    refine lv_iconst (v := (1 : Int32)) hx hb (dk DX11_readSessions 8 rfl) (by decide) ?_
    refine lv_bipush (v := (9 : Int32)) hx hb (dk DX11_readSessions 9 rfl) (by decide) ?_
    obtain ⟨xq3, mq1, hzq2, hF⟩ := bnd_ex hF
    refine r_callVi (As := [.int (1 : Int32), .int (9 : Int32)]) (rest := []) C hR (C_M_number l hl0 G (1 : Int32) (9 : Int32) m0 _ _ hzq2) (by decide) (by decide) ob78 rfl wX11_106 rfl rfl (Nat.le_of_ble_eq_true rfl) hl.1 ⟨Nat.zero_le _, Nat.zero_le _⟩ (dk DX11_readSessions 10 rfl) (fun H locs hR => ?_)
    refine lv_istore_n (lv' := [(1, .int xq3), (0, .ref (G.2.1 + 78))]) hx hb (dk DX11_readSessions 11 rfl) rfl hl (by decide) rfl (fun ls hl => ?_)
    refine lv_iload_n hx hb (dk DX11_readSessions 12 rfl) rfl (lv_at hl 0 rfl) ?_
    obtain ⟨k31_4, ek31_4, hF⟩ := lt_ex hF
    have J31 : ∀ (mq4 : Mem) (H : Heap) (locs : List Loc) (ls : Array Slot), lv_has ls 2 [(1, .int xq3)] → Rp G mr0 N0 mq4 s H locs → k31_4  mq4 = some (v, m') → W p l e (rmD 4) s mid args below meth c H locs 0 0 (MQ below (QR G mr0 N0 (some (.int (b2i v))) m') args s 0 0 (fun q => G.2.1 ≤ q)) (F0 mid 31 ls []) := by
      intro  mq4 H locs ls hl hR hF
      rw [ek31_4] at hF
      refine lv_iload_n hx hb (dk DX11_readSessions 19 rfl) rfl (lv_at hl 0 rfl) ?_
      refine lv_if_lt (tgt := 39) hx hb (dk DX11_readSessions 20 rfl) (by decide) (fun c32 => ?_) (fun c32 => ?_)
      · have hF := if_t c32 hF
        refine lv_iconst (v := (0 : Int32)) hx hb (dk DX11_readSessions 23 rfl) (by decide) ?_
        cases hF
        exact r_zret C hrt hR (dk DX11_readSessions 24 rfl)
      · have hF := if_f c32 hF
        refine lv_iconst (v := (1 : Int32)) hx hb (dk DX11_readSessions 21 rfl) (by decide) ?_
        refine lv_goto (tgt := 40) hx hb (dk DX11_readSessions 22 rfl) (by decide) ?_
        cases hF
        exact r_zret C hrt hR (dk DX11_readSessions 24 rfl)
    refine lv_if_lt (tgt := 31) hx hb (dk DX11_readSessions 13 rfl) (by decide) (fun c21 => ?_) (fun c21 => ?_)
    · have hF := if_t c21 hF
      exact J31 mq1 _ _ ls (lv_sub hl [0] rfl) hR hF
    · have hF := if_f c21 hF
      refine lv_aload_n hx hb (dk DX11_readSessions 14 rfl) rfl (lv_at hl 1 rfl) ?_
      refine gX11_13 C hR ob78 rf78_1 (dk DX11_readSessions 15 rfl) ?_
      refine lv_iconst (v := (0 : Int32)) hx hb (dk DX11_readSessions 16 rfl) (by decide) ?_
      refine lv_iload_n hx hb (dk DX11_readSessions 17 rfl) rfl (lv_at hl 0 rfl) ?_
      refine r_iast C hR ob79 rfl (dk DX11_readSessions 18 rfl) (fun H locs hR => ?_)
      obtain ⟨mq5, emq5, hF⟩ := lt_ex hF
      have hR := Rp_at emq5 hR
      exact J31 mq5 _ _ ls (lv_sub hl [0] rfl) hR hF
  · have hF := if_f c7 hF
    refine lv_iconst (v := (0 : Int32)) hx hb (dk DX11_readSessions 5 rfl) (by decide) ?_
    cases hF
    exact r_zret C hrt hR (dk DX11_readSessions 6 rfl)
set_option maxHeartbeats 4000000 in
set_option maxRecDepth 100000 in
theorem C_M_readGroundLine (l : Launch) (hl0 : l.stackTraces = false) (G : GG) (m0 : Mem) (v : Bool) (m' : Mem) (hF : F_M_readGroundLine m0 = some (v, m')) : Ct l G mr0 N0 yX11_readGroundLine cX11_readGroundLine 1 (some .boolean) 12 [.ref (G.2.1 + 78)] m0 (some (.int (b2i v))) m' := by
  refine Ct_of hl0 (by decide) (Nat.le_of_ble_eq_true rfl) ?_
  intro p e s mid args below meth c ls C hrt hl hR
  have hx := C.1.1
  have hb := C.1.2.1
  have hl : lv_has ls 1 [(0, .ref (G.2.1 + 78))] := hl
  unfold F_M_readGroundLine at hF
  refine lv_aload_n hx hb (dk DX11_readGroundLine 0 rfl) rfl (lv_at hl 0 rfl) ?_
  refine r_lds C (strm_X11_126) (dk DX11_readGroundLine 1 rfl) ?_
  obtain ⟨zq3, mq1, hzq2, hF⟩ := bnd_ex hF
  refine r_callVi (As := [.ref (G.2.2.2.2.2.2 ("sessions"))]) (rest := []) C hR (C_M_isWord l hl0 G ("sessions") m0 txm_0 _ _ hzq2) (by decide) (by decide) ob78 rfl wX11_102 rfl rfl (Nat.le_of_ble_eq_true rfl) hl.1 ⟨Nat.zero_le _, Nat.zero_le _⟩ (dk DX11_readGroundLine 2 rfl) (fun H locs hR => ?_)
  refine z_ifeq (tgt := 14) hx hb (dk DX11_readGroundLine 3 rfl) (by decide) (fun c6 => ?_) (fun c6 => ?_)
  · have hF := if_f c6 hF
    refine lv_aload_n hx hb (dk DX11_readGroundLine 7 rfl) rfl (lv_at hl 0 rfl) ?_
    refine r_lds C (strm_X11_131) (dk DX11_readGroundLine 8 rfl) ?_
    obtain ⟨zq6, mq4, hzq5, hF⟩ := bnd_ex hF
    refine r_callVi (As := [.ref (G.2.2.2.2.2.2 ("side"))]) (rest := []) C hR (C_M_isWord l hl0 G ("side") mq1 txm_1 _ _ hzq5) (by decide) (by decide) ob78 rfl wX11_102 rfl rfl (Nat.le_of_ble_eq_true rfl) hl.1 ⟨Nat.zero_le _, Nat.zero_le _⟩ (dk DX11_readGroundLine 9 rfl) (fun H locs hR => ?_)
    refine z_ifeq (tgt := 28) hx hb (dk DX11_readGroundLine 10 rfl) (by decide) (fun c20 => ?_) (fun c20 => ?_)
    · have hF := if_f c20 hF
      refine lv_aload_n hx hb (dk DX11_readGroundLine 14 rfl) rfl (lv_at hl 0 rfl) ?_
      refine r_lds C (strm_X11_136) (dk DX11_readGroundLine 15 rfl) ?_
      obtain ⟨zq9, mq7, hzq8, hF⟩ := bnd_ex hF
      refine r_callVi (As := [.ref (G.2.2.2.2.2.2 ("slot"))]) (rest := []) C hR (C_M_isWord l hl0 G ("slot") mq4 txm_4 _ _ hzq8) (by decide) (by decide) ob78 rfl wX11_102 rfl rfl (Nat.le_of_ble_eq_true rfl) hl.1 ⟨Nat.zero_le _, Nat.zero_le _⟩ (dk DX11_readGroundLine 16 rfl) (fun H locs hR => ?_)
      refine z_ifeq (tgt := 42) hx hb (dk DX11_readGroundLine 17 rfl) (by decide) (fun c34 => ?_) (fun c34 => ?_)
      · have hF := if_f c34 hF
        refine lv_aload_n hx hb (dk DX11_readGroundLine 21 rfl) rfl (lv_at hl 0 rfl) ?_
        refine r_lds C (strm_X11_141) (dk DX11_readGroundLine 22 rfl) ?_
        obtain ⟨zq12, mq10, hzq11, hF⟩ := bnd_ex hF
        refine r_callVi (As := [.ref (G.2.2.2.2.2.2 ("cloud"))]) (rest := []) C hR (C_M_isWord l hl0 G ("cloud") mq7 txm_7 _ _ hzq11) (by decide) (by decide) ob78 rfl wX11_102 rfl rfl (Nat.le_of_ble_eq_true rfl) hl.1 ⟨Nat.zero_le _, Nat.zero_le _⟩ (dk DX11_readGroundLine 23 rfl) (fun H locs hR => ?_)
        refine z_ifeq (tgt := 58) hx hb (dk DX11_readGroundLine 24 rfl) (by decide) (fun c48 => ?_) (fun c48 => ?_)
        · have hF := if_f c48 hF
          refine lv_aload_n hx hb (dk DX11_readGroundLine 29 rfl) rfl (lv_at hl 0 rfl) ?_
          refine r_lds C (strm_X11_147) (dk DX11_readGroundLine 30 rfl) ?_
          obtain ⟨zq15, mq13, hzq14, hF⟩ := bnd_ex hF
          refine r_callVi (As := [.ref (G.2.2.2.2.2.2 ("tide"))]) (rest := []) C hR (C_M_isWord l hl0 G ("tide") mq10 txm_8 _ _ hzq14) (by decide) (by decide) ob78 rfl wX11_102 rfl rfl (Nat.le_of_ble_eq_true rfl) hl.1 ⟨Nat.zero_le _, Nat.zero_le _⟩ (dk DX11_readGroundLine 31 rfl) (fun H locs hR => ?_)
          refine z_ifeq (tgt := 74) hx hb (dk DX11_readGroundLine 32 rfl) (by decide) (fun c64 => ?_) (fun c64 => ?_)
          · have hF := if_f c64 hF
            refine lv_aload_n hx hb (dk DX11_readGroundLine 37 rfl) rfl (lv_at hl 0 rfl) ?_
            refine r_lds C (strm_X11_149) (dk DX11_readGroundLine 38 rfl) ?_
            obtain ⟨zq18, mq16, hzq17, hF⟩ := bnd_ex hF
            refine r_callVi (As := [.ref (G.2.2.2.2.2.2 ("rain"))]) (rest := []) C hR (C_M_isWord l hl0 G ("rain") mq13 txm_9 _ _ hzq17) (by decide) (by decide) ob78 rfl wX11_102 rfl rfl (Nat.le_of_ble_eq_true rfl) hl.1 ⟨Nat.zero_le _, Nat.zero_le _⟩ (dk DX11_readGroundLine 39 rfl) (fun H locs hR => ?_)
            refine z_ifeq (tgt := 90) hx hb (dk DX11_readGroundLine 40 rfl) (by decide) (fun c80 => ?_) (fun c80 => ?_)
            · have hF := if_f c80 hF
              refine lv_aload_n hx hb (dk DX11_readGroundLine 45 rfl) rfl (lv_at hl 0 rfl) ?_
              refine r_lds C (strm_X11_151) (dk DX11_readGroundLine 46 rfl) ?_
              obtain ⟨zq21, mq19, hzq20, hF⟩ := bnd_ex hF
              refine r_callVi (As := [.ref (G.2.2.2.2.2.2 ("margin"))]) (rest := []) C hR (C_M_isWord l hl0 G ("margin") mq16 txm_10 _ _ hzq20) (by decide) (by decide) ob78 rfl wX11_102 rfl rfl (Nat.le_of_ble_eq_true rfl) hl.1 ⟨Nat.zero_le _, Nat.zero_le _⟩ (dk DX11_readGroundLine 47 rfl) (fun H locs hR => ?_)
              refine z_ifeq (tgt := 107) hx hb (dk DX11_readGroundLine 48 rfl) (by decide) (fun c96 => ?_) (fun c96 => ?_)
              · have hF := if_f c96 hF
                refine lv_aload_n hx hb (dk DX11_readGroundLine 54 rfl) rfl (lv_at hl 0 rfl) ?_
                refine r_lds C (strm_X11_156) (dk DX11_readGroundLine 55 rfl) ?_
                obtain ⟨zq24, mq22, hzq23, hF⟩ := bnd_ex hF
                refine r_callVi (As := [.ref (G.2.2.2.2.2.2 ("drawworth"))]) (rest := []) C hR (C_M_isWord l hl0 G ("drawworth") mq19 txm_11 _ _ hzq23) (by decide) (by decide) ob78 rfl wX11_102 rfl rfl (Nat.le_of_ble_eq_true rfl) hl.1 ⟨Nat.zero_le _, Nat.zero_le _⟩ (dk DX11_readGroundLine 56 rfl) (fun H locs hR => ?_)
                refine z_ifeq (tgt := 124) hx hb (dk DX11_readGroundLine 57 rfl) (by decide) (fun c113 => ?_) (fun c113 => ?_)
                · have hF := if_f c113 hF
                  refine lv_aload_n hx hb (dk DX11_readGroundLine 63 rfl) rfl (lv_at hl 0 rfl) ?_
                  refine r_lds C (strm_X11_158) (dk DX11_readGroundLine 64 rfl) ?_
                  obtain ⟨zq27, mq25, hzq26, hF⟩ := bnd_ex hF
                  refine r_callVi (As := [.ref (G.2.2.2.2.2.2 ("book"))]) (rest := []) C hR (C_M_isWord l hl0 G ("book") mq22 txm_12 _ _ hzq26) (by decide) (by decide) ob78 rfl wX11_102 rfl rfl (Nat.le_of_ble_eq_true rfl) hl.1 ⟨Nat.zero_le _, Nat.zero_le _⟩ (dk DX11_readGroundLine 65 rfl) (fun H locs hR => ?_)
                  refine z_ifeq (tgt := 144) hx hb (dk DX11_readGroundLine 66 rfl) (by decide) (fun c130 => ?_) (fun c130 => ?_)
                  · have hF := if_f c130 hF
                    refine lv_iconst (v := (0 : Int32)) hx hb (dk DX11_readGroundLine 72 rfl) (by decide) ?_
                    cases hF
                    exact r_zret C hrt hR (dk DX11_readGroundLine 73 rfl)
                  · have hF := if_t c130 hF
                    refine lv_aload_n hx hb (dk DX11_readGroundLine 67 rfl) rfl (lv_at hl 0 rfl) ?_
                    obtain ⟨zq30, mq28, hzq29, hF⟩ := bnd_ex hF
                    refine r_callVi (As := []) (rest := []) C hR (C_M_readBook l hl0 G mq25 _ _ hzq29) (by decide) (by decide) ob78 rfl wX11_160 rfl rfl (Nat.le_of_ble_eq_true rfl) hl.1 ⟨Nat.zero_le _, Nat.zero_le _⟩ (dk DX11_readGroundLine 68 rfl) (fun H locs hR => ?_)
                    refine z_ifeq (tgt := 144) hx hb (dk DX11_readGroundLine 69 rfl) (by decide) (fun c137 => ?_) (fun c137 => ?_)
                    · have hF := if_f c137 hF
                      refine lv_iconst (v := (0 : Int32)) hx hb (dk DX11_readGroundLine 72 rfl) (by decide) ?_
                      cases hF
                      exact r_zret C hrt hR (dk DX11_readGroundLine 73 rfl)
                    · have hF := if_t c137 hF
                      refine lv_iconst (v := (1 : Int32)) hx hb (dk DX11_readGroundLine 70 rfl) (by decide) ?_
                      refine lv_goto (tgt := 145) hx hb (dk DX11_readGroundLine 71 rfl) (by decide) ?_
                      cases hF
                      exact r_zret C hrt hR (dk DX11_readGroundLine 73 rfl)
                · have hF := if_t c113 hF
                  refine lv_aload_n hx hb (dk DX11_readGroundLine 58 rfl) rfl (lv_at hl 0 rfl) ?_
                  refine lv_iconst (v := (2 : Int32)) hx hb (dk DX11_readGroundLine 59 rfl) (by decide) ?_
                  refine lv_bipush (v := (100 : Int32)) hx hb (dk DX11_readGroundLine 60 rfl) (by decide) ?_
                  obtain ⟨zq33, mq31, hzq32, hF⟩ := bnd_ex hF
                  refine r_callVi (As := [.int (2 : Int32), .int (100 : Int32)]) (rest := []) C hR (C_M_readNumber l hl0 G (2 : Int32) (100 : Int32) mq22 _ _ hzq32) (by decide) (by decide) ob78 rfl wX11_153 rfl rfl (Nat.le_of_ble_eq_true rfl) hl.1 ⟨Nat.zero_le _, Nat.zero_le _⟩ (dk DX11_readGroundLine 61 rfl) (fun H locs hR => ?_)
                  cases hF
                  exact r_zret C hrt hR (dk DX11_readGroundLine 62 rfl)
              · have hF := if_t c96 hF
                refine lv_aload_n hx hb (dk DX11_readGroundLine 49 rfl) rfl (lv_at hl 0 rfl) ?_
                refine lv_iconst (v := (1 : Int32)) hx hb (dk DX11_readGroundLine 50 rfl) (by decide) ?_
                refine lv_bipush (v := (99 : Int32)) hx hb (dk DX11_readGroundLine 51 rfl) (by decide) ?_
                obtain ⟨zq36, mq34, hzq35, hF⟩ := bnd_ex hF
                refine r_callVi (As := [.int (1 : Int32), .int (99 : Int32)]) (rest := []) C hR (C_M_readNumber l hl0 G (1 : Int32) (99 : Int32) mq19 _ _ hzq35) (by decide) (by decide) ob78 rfl wX11_153 rfl rfl (Nat.le_of_ble_eq_true rfl) hl.1 ⟨Nat.zero_le _, Nat.zero_le _⟩ (dk DX11_readGroundLine 52 rfl) (fun H locs hR => ?_)
                cases hF
                exact r_zret C hrt hR (dk DX11_readGroundLine 53 rfl)
            · have hF := if_t c80 hF
              refine lv_aload_n hx hb (dk DX11_readGroundLine 41 rfl) rfl (lv_at hl 0 rfl) ?_
              refine lv_bipush (v := (8 : Int32)) hx hb (dk DX11_readGroundLine 42 rfl) (by decide) ?_
              obtain ⟨zq39, mq37, hzq38, hF⟩ := bnd_ex hF
              refine r_callVi (As := [.int (8 : Int32)]) (rest := []) C hR (C_M_readSet l hl0 G (8 : Int32) mq16 _ _ hzq38) (by decide) (by decide) ob78 rfl wX11_143 rfl rfl (Nat.le_of_ble_eq_true rfl) hl.1 ⟨Nat.zero_le _, Nat.zero_le _⟩ (dk DX11_readGroundLine 43 rfl) (fun H locs hR => ?_)
              cases hF
              exact r_zret C hrt hR (dk DX11_readGroundLine 44 rfl)
          · have hF := if_t c64 hF
            refine lv_aload_n hx hb (dk DX11_readGroundLine 33 rfl) rfl (lv_at hl 0 rfl) ?_
            refine lv_bipush (v := (7 : Int32)) hx hb (dk DX11_readGroundLine 34 rfl) (by decide) ?_
            obtain ⟨zq42, mq40, hzq41, hF⟩ := bnd_ex hF
            refine r_callVi (As := [.int (7 : Int32)]) (rest := []) C hR (C_M_readSet l hl0 G (7 : Int32) mq13 _ _ hzq41) (by decide) (by decide) ob78 rfl wX11_143 rfl rfl (Nat.le_of_ble_eq_true rfl) hl.1 ⟨Nat.zero_le _, Nat.zero_le _⟩ (dk DX11_readGroundLine 35 rfl) (fun H locs hR => ?_)
            cases hF
            exact r_zret C hrt hR (dk DX11_readGroundLine 36 rfl)
        · have hF := if_t c48 hF
          refine lv_aload_n hx hb (dk DX11_readGroundLine 25 rfl) rfl (lv_at hl 0 rfl) ?_
          refine lv_bipush (v := (6 : Int32)) hx hb (dk DX11_readGroundLine 26 rfl) (by decide) ?_
          obtain ⟨zq45, mq43, hzq44, hF⟩ := bnd_ex hF
          refine r_callVi (As := [.int (6 : Int32)]) (rest := []) C hR (C_M_readSet l hl0 G (6 : Int32) mq10 _ _ hzq44) (by decide) (by decide) ob78 rfl wX11_143 rfl rfl (Nat.le_of_ble_eq_true rfl) hl.1 ⟨Nat.zero_le _, Nat.zero_le _⟩ (dk DX11_readGroundLine 27 rfl) (fun H locs hR => ?_)
          cases hF
          exact r_zret C hrt hR (dk DX11_readGroundLine 28 rfl)
      · have hF := if_t c34 hF
        refine lv_aload_n hx hb (dk DX11_readGroundLine 18 rfl) rfl (lv_at hl 0 rfl) ?_
        obtain ⟨zq48, mq46, hzq47, hF⟩ := bnd_ex hF
        refine r_callVi (As := []) (rest := []) C hR (C_M_readSlot l hl0 G mq7 _ _ hzq47) (by decide) (by decide) ob78 rfl wX11_138 rfl rfl (Nat.le_of_ble_eq_true rfl) hl.1 ⟨Nat.zero_le _, Nat.zero_le _⟩ (dk DX11_readGroundLine 19 rfl) (fun H locs hR => ?_)
        cases hF
        exact r_zret C hrt hR (dk DX11_readGroundLine 20 rfl)
    · have hF := if_t c20 hF
      refine lv_aload_n hx hb (dk DX11_readGroundLine 11 rfl) rfl (lv_at hl 0 rfl) ?_
      obtain ⟨zq51, mq49, hzq50, hF⟩ := bnd_ex hF
      refine r_callVi (As := []) (rest := []) C hR (C_M_readSide l hl0 G mq4 _ _ hzq50) (by decide) (by decide) ob78 rfl wX11_133 rfl rfl (Nat.le_of_ble_eq_true rfl) hl.1 ⟨Nat.zero_le _, Nat.zero_le _⟩ (dk DX11_readGroundLine 12 rfl) (fun H locs hR => ?_)
      cases hF
      exact r_zret C hrt hR (dk DX11_readGroundLine 13 rfl)
  · have hF := if_t c6 hF
    refine lv_aload_n hx hb (dk DX11_readGroundLine 4 rfl) rfl (lv_at hl 0 rfl) ?_
    obtain ⟨zq54, mq52, hzq53, hF⟩ := bnd_ex hF
    refine r_callVi (As := []) (rest := []) C hR (C_M_readSessions l hl0 G mq1 _ _ hzq53) (by decide) (by decide) ob78 rfl wX11_128 rfl rfl (Nat.le_of_ble_eq_true rfl) hl.1 ⟨Nat.zero_le _, Nat.zero_le _⟩ (dk DX11_readGroundLine 5 rfl) (fun H locs hR => ?_)
    cases hF
    exact r_zret C hrt hR (dk DX11_readGroundLine 6 rfl)
set_option maxHeartbeats 4000000 in
set_option maxRecDepth 100000 in
theorem C_M_readLine (l : Launch) (hl0 : l.stackTraces = false) (G : GG) (a1 : Bool) (a2 : Int32) (m0 : Mem) (v : Bool) (m' : Mem) (hF : F_M_readLine a1 a2 m0 = some (v, m')) : Ct l G mr0 N0 yX11_readLine cX11_readLine 3 (some .boolean) 41 [.ref (G.2.1 + 78), .int (b2i a1), .int a2] m0 (some (.int (b2i v))) m' := by
  refine Ct_of hl0 (by decide) (Nat.le_of_ble_eq_true rfl) ?_
  intro p e s mid args below meth c ls C hrt hl hR
  have hx := C.1.1
  have hb := C.1.2.1
  have hl : lv_has ls 3 [(0, .ref (G.2.1 + 78)), (1, .int (b2i a1)), (2, .int a2)] := hl
  unfold F_M_readLine at hF
  refine lv_aload_n hx hb (dk DX11_readLine 0 rfl) rfl (lv_at hl 0 rfl) ?_
  obtain ⟨uq3, mq1, hzq2, hF⟩ := bnd_ex hF
  refine r_callVv (As := []) (rest := []) C hR (C_M_letters l hl0 G m0 _ _ hzq2) (by decide) (by decide) ob78 rfl wX11_99 rfl rfl (Nat.le_of_ble_eq_true rfl) hl.1 ⟨Nat.zero_le _, Nat.zero_le _⟩ (dk DX11_readLine 1 rfl) (fun H locs hR => ?_)
  refine lv_iload_n hx hb (dk DX11_readLine 2 rfl) rfl (lv_at hl 2 rfl) ?_
  refine lv_iload_n hx hb (dk DX11_readLine 3 rfl) rfl (lv_at hl 1 rfl) ?_
  obtain ⟨k16_5, ek16_5, hF⟩ := lt_ex hF
  have J16 : ∀ (xq5 : Int32) (mq4 : Mem) (H : Heap) (locs : List Loc) (ls : Array Slot), lv_has ls 3 [(0, .ref (G.2.1 + 78)), (1, .int (b2i a1)), (2, .int a2)] → Rp G mr0 N0 mq4 s H locs → k16_5 xq5 mq4 = some (v, m') → W p l e (rmD 41) s mid args below meth c H locs 0 0 (MQ below (QR G mr0 N0 (some (.int (b2i v))) m') args s 0 0 (fun q => G.2.1 ≤ q)) (F0 mid 16 ls [.int xq5, .int a2]) := by
    intro xq5 mq4 H locs ls hl hR hF
    rw [ek16_5] at hF
    refine lv_icmp_ge (tgt := 45) hx hb (dk DX11_readLine 8 rfl) (by decide) (fun c16 => ?_) (fun c16 => ?_)
    · have hF := if_t c16 hF
      refine lv_iconst (v := (0 : Int32)) hx hb (dk DX11_readLine 21 rfl) (by decide) ?_
      cases hF
      exact r_zret C hrt hR (dk DX11_readLine 22 rfl)
    · have hF := if_f c16 hF
      refine lv_iload_n hx hb (dk DX11_readLine 9 rfl) rfl (lv_at hl 1 rfl) ?_
      refine z_ifeq (tgt := 33) hx hb (dk DX11_readLine 10 rfl) (by decide) (fun c20 => ?_) (fun c20 => ?_)
      · have hF := if_f c20 hF
        refine lv_aload_n hx hb (dk DX11_readLine 15 rfl) rfl (lv_at hl 0 rfl) ?_
        refine lv_iload_n hx hb (dk DX11_readLine 16 rfl) rfl (lv_at hl 2 rfl) ?_
        obtain ⟨zq8, mq6, hzq7, hF⟩ := bnd_ex hF
        refine r_callVi (As := [.int a2]) (rest := []) C hR (C_M_readLawLine l hl0 G a2 mq4 _ _ hzq7) (by decide) (by decide) ob78 rfl wX11_213 rfl rfl (Nat.le_of_ble_eq_true rfl) hl.1 ⟨Nat.zero_le _, Nat.zero_le _⟩ (dk DX11_readLine 17 rfl) (fun H locs hR => ?_)
        refine z_ifeq (tgt := 45) hx hb (dk DX11_readLine 18 rfl) (by decide) (fun c38 => ?_) (fun c38 => ?_)
        · have hF := if_f c38 hF
          refine lv_iconst (v := (0 : Int32)) hx hb (dk DX11_readLine 21 rfl) (by decide) ?_
          cases hF
          exact r_zret C hrt hR (dk DX11_readLine 22 rfl)
        · have hF := if_t c38 hF
          refine lv_iconst (v := (1 : Int32)) hx hb (dk DX11_readLine 19 rfl) (by decide) ?_
          refine lv_goto (tgt := 46) hx hb (dk DX11_readLine 20 rfl) (by decide) ?_
          cases hF
          exact r_zret C hrt hR (dk DX11_readLine 22 rfl)
      · have hF := if_t c20 hF
        refine lv_aload_n hx hb (dk DX11_readLine 11 rfl) rfl (lv_at hl 0 rfl) ?_
        obtain ⟨zq11, mq9, hzq10, hF⟩ := bnd_ex hF
        refine r_callVi (As := []) (rest := []) C hR (C_M_readGroundLine l hl0 G mq4 _ _ hzq10) (by decide) (by decide) ob78 rfl wX11_210 rfl rfl (Nat.le_of_ble_eq_true rfl) hl.1 ⟨Nat.zero_le _, Nat.zero_le _⟩ (dk DX11_readLine 12 rfl) (fun H locs hR => ?_)
        refine z_ifeq (tgt := 45) hx hb (dk DX11_readLine 13 rfl) (by decide) (fun c27 => ?_) (fun c27 => ?_)
        · have hF := if_f c27 hF
          refine lv_iconst (v := (0 : Int32)) hx hb (dk DX11_readLine 21 rfl) (by decide) ?_
          cases hF
          exact r_zret C hrt hR (dk DX11_readLine 22 rfl)
        · have hF := if_t c27 hF
          refine lv_goto (tgt := 41) hx hb (dk DX11_readLine 14 rfl) (by decide) ?_
          refine lv_iconst (v := (1 : Int32)) hx hb (dk DX11_readLine 19 rfl) (by decide) ?_
          refine lv_goto (tgt := 46) hx hb (dk DX11_readLine 20 rfl) (by decide) ?_
          cases hF
          exact r_zret C hrt hR (dk DX11_readLine 22 rfl)
  refine z_ifeq (tgt := 14) hx hb (dk DX11_readLine 4 rfl) (by decide) (fun c6 => ?_) (fun c6 => ?_)
  · have hF := if_f c6 hF
    refine lv_bipush (v := (12 : Int32)) hx hb (dk DX11_readLine 7 rfl) (by decide) ?_
    exact J16 (12 : Int32) mq1 _ _ ls (lv_sub hl [0, 1, 2] rfl) hR hF
  · have hF := if_t c6 hF
    refine lv_bipush (v := (14 : Int32)) hx hb (dk DX11_readLine 5 rfl) (by decide) ?_
    refine lv_goto (tgt := 16) hx hb (dk DX11_readLine 6 rfl) (by decide) ?_
    exact J16 (14 : Int32) mq1 _ _ ls (lv_sub hl [0, 1, 2] rfl) hR hF
set_option maxHeartbeats 4000000 in
set_option maxRecDepth 100000 in
theorem C_M_readAll (l : Launch) (hl0 : l.stackTraces = false) (G : GG) (a1 : Bool) (m0 : Mem) (v : Int32) (m' : Mem) (hF : F_M_readAll a1 m0 = some (v, m')) : Ct l G mr0 N0 yX11_readAll cX11_readAll 3 (some .int) 42 [.ref (G.2.1 + 78), .int (b2i a1)] m0 (some (.int v)) m' := by
  refine Ct_of hl0 (by decide) (Nat.le_of_ble_eq_true rfl) ?_
  intro p e s mid args below meth c ls C hrt hl hR
  have hx := C.1.1
  have hb := C.1.2.1
  have hl : lv_has ls 3 [(0, .ref (G.2.1 + 78)), (1, .int (b2i a1))] := hl
  unfold F_M_readAll at hF
  refine lv_aload_n hx hb (dk DX11_readAll 0 rfl) rfl (lv_at hl 0 rfl) ?_
  obtain ⟨uq3, mq1, hzq2, hF⟩ := bnd_ex hF
  refine r_callVv (As := []) (rest := []) C hR (C_M_uses l hl0 G m0 _ _ hzq2) (by decide) (by decide) ob78 rfl wX11_216 rfl rfl (Nat.le_of_ble_eq_true rfl) hl.1 ⟨Nat.zero_le _, Nat.zero_le _⟩ (dk DX11_readAll 1 rfl) (fun H locs hR => ?_)
  refine lv_aload_n hx hb (dk DX11_readAll 2 rfl) rfl (lv_at hl 0 rfl) ?_
  refine lv_iconst (v := (0 : Int32)) hx hb (dk DX11_readAll 3 rfl) (by decide) ?_
  refine pX11_163 (x := (0 : Int32)) C hR ob78 (dk DX11_readAll 4 rfl) (fun H locs hR => ?_)
  obtain ⟨mq4, emq4, hF⟩ := lt_ex hF
  have hR := Rp_at emq4 hR
  refine lv_aload_n hx hb (dk DX11_readAll 5 rfl) rfl (lv_at hl 0 rfl) ?_
  obtain ⟨uq7, mq5, hzq6, hF⟩ := bnd_ex hF
  refine r_callVv (As := []) (rest := []) C hR (C_M_blanks l hl0 G mq4 _ _ hzq6) (by decide) (by decide) ob78 rfl wX11_87 rfl rfl (Nat.le_of_ble_eq_true rfl) hl.1 ⟨Nat.zero_le _, Nat.zero_le _⟩ (dk DX11_readAll 6 rfl) (fun H locs hR => ?_)
  refine lv_aload_n hx hb (dk DX11_readAll 7 rfl) rfl (lv_at hl 0 rfl) ?_
  refine gX11_74 C hR ob78 (dk DX11_readAll 8 rfl) ?_
  refine lv_aload_n hx hb (dk DX11_readAll 9 rfl) rfl (lv_at hl 0 rfl) ?_
  refine gX11_77 C hR ob78 (dk DX11_readAll 10 rfl) ?_
  refine lv_icmp_ne (tgt := 26) hx hb (dk DX11_readAll 11 rfl) (by decide) (fun c21 => ?_) (fun c21 => ?_)
  · have hF := if_f c21 hF
    refine lv_iconst (v := (0 : Int32)) hx hb (dk DX11_readAll 14 rfl) (by decide) ?_
    refine lv_istore_n (lv' := [(2, .int (0 : Int32)), (0, .ref (G.2.1 + 78)), (1, .int (b2i a1))]) hx hb (dk DX11_readAll 15 rfl) rfl hl (by decide) rfl (fun ls hl => ?_)
    obtain ⟨k54_9, ek54_9, hF⟩ := lt_ex hF
    have J54 : ∀ (xq9 : Int32) (mq8 : Mem) (H : Heap) (locs : List Loc) (ls : Array Slot), lv_has ls 3 [(2, .int xq9)] → Rp G mr0 N0 mq8 s H locs → k54_9 xq9 mq8 = some (v, m') → W p l e (rmD 42) s mid args below meth c H locs 0 0 (MQ below (QR G mr0 N0 (some (.int v)) m') args s 0 0 (fun q => G.2.1 ≤ q)) (F0 mid 54 ls []) := by
      intro xq9 mq8 H locs ls hl hR hF
      rw [ek54_9] at hF
      refine lv_iload_n hx hb (dk DX11_readAll 30 rfl) rfl (lv_at hl 0 rfl) ?_
      refine lv_iconst (v := (1 : Int32)) hx hb (dk DX11_readAll 31 rfl) (by decide) ?_
      refine lv_iadd hx hb (dk DX11_readAll 32 rfl) ?_
      cases hF
      exact r_iret C hrt hR (dk DX11_readAll 33 rfl)
    have L28 : ∀ (nf : Nat) (xq11 : Int32) (mq10 : Mem) (H : Heap) (locs : List Loc) (ls : Array Slot), lv_has ls 3 [(0, .ref (G.2.1 + 78)), (1, .int (b2i a1)), (2, .int xq11)] → Rp G mr0 N0 mq10 s H locs → F_M_readAll_L28 a1 k54_9 nf xq11 mq10 = some (v, m') → W p l e (rmD 42) s mid args below meth c H locs 0 0 (MQ below (QR G mr0 N0 (some (.int v)) m') args s 0 0 (fun q => G.2.1 ≤ q)) (F0 mid 28 ls []) := by
      intro nf
      induction nf with
      | zero =>
        intro xq11 mq10 H locs ls hl hR hF
        rw [F_M_readAll_L28] at hF
        cases hF
      | succ nf ihq13 =>
        intro xq11 mq10 H locs ls hl hR hF
        rw [F_M_readAll_L28] at hF
        refine lv_aload_n hx hb (dk DX11_readAll 16 rfl) rfl (lv_at hl 0 rfl) ?_
        refine lv_iload_n hx hb (dk DX11_readAll 17 rfl) rfl (lv_at hl 1 rfl) ?_
        refine lv_iload_n hx hb (dk DX11_readAll 18 rfl) rfl (lv_at hl 2 rfl) ?_
        obtain ⟨zq16, mq14, hzq15, hF⟩ := bnd_ex hF
        refine r_callVi (As := [.int (b2i a1), .int xq11]) (rest := []) C hR (C_M_readLine l hl0 G a1 xq11 mq10 _ _ hzq15) (by decide) (by decide) ob78 rfl wX11_219 rfl rfl (Nat.le_of_ble_eq_true rfl) hl.1 ⟨Nat.zero_le _, Nat.zero_le _⟩ (dk DX11_readAll 19 rfl) (fun H locs hR => ?_)
        refine z_ifne (tgt := 39) hx hb (dk DX11_readAll 20 rfl) (by decide) (fun c34 => ?_) (fun c34 => ?_)
        · have hF := if_t c34 hF
          refine lv_aload_n hx hb (dk DX11_readAll 23 rfl) rfl (lv_at hl 0 rfl) ?_
          obtain ⟨uq19, mq17, hzq18, hF⟩ := bnd_ex hF
          refine r_callVv (As := []) (rest := []) C hR (C_M_blanks l hl0 G mq14 _ _ hzq18) (by decide) (by decide) ob78 rfl wX11_87 rfl rfl (Nat.le_of_ble_eq_true rfl) hl.1 ⟨Nat.zero_le _, Nat.zero_le _⟩ (dk DX11_readAll 24 rfl) (fun H locs hR => ?_)
          refine lv_aload_n hx hb (dk DX11_readAll 25 rfl) rfl (lv_at hl 0 rfl) ?_
          refine gX11_74 C hR ob78 (dk DX11_readAll 26 rfl) ?_
          refine lv_aload_n hx hb (dk DX11_readAll 27 rfl) rfl (lv_at hl 0 rfl) ?_
          refine gX11_77 C hR ob78 (dk DX11_readAll 28 rfl) ?_
          refine lv_icmp_ne (tgt := 58) hx hb (dk DX11_readAll 29 rfl) (by decide) (fun c51 => ?_) (fun c51 => ?_)
          · have hF := if_f c51 hF
            refine lv_aload_n hx hb (dk DX11_readAll 34 rfl) rfl (lv_at hl 0 rfl) ?_
            refine lv_bipush (v := (59 : Int32)) hx hb (dk DX11_readAll 35 rfl) (by decide) ?_
            refine lv_bipush (v := (59 : Int32)) hx hb (dk DX11_readAll 36 rfl) (by decide) ?_
            obtain ⟨zq22, mq20, hzq21, hF⟩ := bnd_ex hF
            refine r_callVi (As := [.int (59 : Int32), .int (59 : Int32)]) (rest := []) C hR (C_M_isAt l hl0 G (59 : Int32) (59 : Int32) mq17 _ _ hzq21) (by decide) (by decide) ob78 rfl wX11_80 rfl rfl (Nat.le_of_ble_eq_true rfl) hl.1 ⟨Nat.zero_le _, Nat.zero_le _⟩ (dk DX11_readAll 37 rfl) (fun H locs hR => ?_)
            refine z_ifne (tgt := 71) hx hb (dk DX11_readAll 38 rfl) (by decide) (fun c66 => ?_) (fun c66 => ?_)
            · have hF := if_t c66 hF
              refine lv_aload_n hx hb (dk DX11_readAll 41 rfl) rfl (lv_at hl 0 rfl) ?_
              refine lv_dup hx hb (dk DX11_readAll 42 rfl) rfl ?_
              refine gX11_74 C hR ob78 (dk DX11_readAll 43 rfl) ?_
              refine lv_iconst (v := (1 : Int32)) hx hb (dk DX11_readAll 44 rfl) (by decide) ?_
              refine lv_iadd hx hb (dk DX11_readAll 45 rfl) ?_
              refine pX11_74 (x := (gI mq20 78 9) + (1 : Int32)) C hR ob78 (dk DX11_readAll 46 rfl) (fun H locs hR => ?_)
              obtain ⟨mq23, emq23, hF⟩ := lt_ex hF
              have hR := Rp_at emq23 hR
              obtain ⟨xq24, exq24, hF⟩ := lt_ex hF
              refine lv_iinc (v := xq24) (lv' := [(2, .int xq24), (0, .ref (G.2.1 + 78)), (1, .int (b2i a1))]) hx hb (dk DX11_readAll 47 rfl) hl (k := 2) rfl (by rw [exq24]; rfl) (by decide) rfl (fun ls hl => ?_)
              refine lv_goto (tgt := 28) hx hb (dk DX11_readAll 48 rfl) (by decide) ?_
              exact ihq13 xq24 mq23 _ _ ls (lv_sub hl [1, 2, 0] rfl) hR hF
            · have hF := if_f c66 hF
              refine lv_iconst (v := (-1 : Int32)) hx hb (dk DX11_readAll 39 rfl) (by decide) ?_
              cases hF
              exact r_iret C hrt hR (dk DX11_readAll 40 rfl)
          · have hF := if_t c51 hF
            exact J54 xq11 mq17 _ _ ls (lv_sub hl [2] rfl) hR hF
        · have hF := if_f c34 hF
          refine lv_iconst (v := (-1 : Int32)) hx hb (dk DX11_readAll 21 rfl) (by decide) ?_
          cases hF
          exact r_iret C hrt hR (dk DX11_readAll 22 rfl)
    exact L28 1000000 (0 : Int32) mq5 _ _ ls (lv_sub hl [1, 2, 0] rfl) hR hF
  · have hF := if_t c21 hF
    refine lv_iconst (v := (0 : Int32)) hx hb (dk DX11_readAll 12 rfl) (by decide) ?_
    cases hF
    exact r_iret C hrt hR (dk DX11_readAll 13 rfl)
set_option maxHeartbeats 4000000 in
set_option maxRecDepth 100000 in
theorem C_M_ground (l : Launch) (hl0 : l.stackTraces = false) (G : GG) (m0 : Mem) (v : Int32) (m' : Mem) (hF : F_M_ground m0 = some (v, m')) : Ct l G mr0 N0 yX11_ground cX11_ground 3 (some .int) 43 [.ref (G.2.1 + 78)] m0 (some (.int v)) m' := by
  refine Ct_of hl0 (by decide) (Nat.le_of_ble_eq_true rfl) ?_
  intro p e s mid args below meth c ls C hrt hl hR
  have hx := C.1.1
  have hb := C.1.2.1
  have hl : lv_has ls 3 [(0, .ref (G.2.1 + 78))] := hl
  unfold F_M_ground at hF
  refine lv_iconst (v := (0 : Int32)) hx hb (dk DX11_ground 0 rfl) (by decide) ?_
  refine lv_istore_n (lv' := [(1, .int (0 : Int32)), (0, .ref (G.2.1 + 78))]) hx hb (dk DX11_ground 1 rfl) rfl hl (by decide) rfl (fun ls hl => ?_)
  obtain ⟨k27_1, ek27_1, hF⟩ := lt_ex hF
  have J27 : ∀ (mq1 : Mem) (H : Heap) (locs : List Loc) (ls : Array Slot), lv_has ls 3 [(0, .ref (G.2.1 + 78))] → Rp G mr0 N0 mq1 s H locs → k27_1  mq1 = some (v, m') → W p l e (rmD 43) s mid args below meth c H locs 0 0 (MQ below (QR G mr0 N0 (some (.int v)) m') args s 0 0 (fun q => G.2.1 ≤ q)) (F0 mid 27 ls []) := by
    intro  mq1 H locs ls hl hR hF
    rw [ek27_1] at hF
    refine lv_aload_n hx hb (dk DX11_ground 15 rfl) rfl (lv_at hl 0 rfl) ?_
    refine lv_iconst (v := (1 : Int32)) hx hb (dk DX11_ground 16 rfl) (by decide) ?_
    obtain ⟨xq4, mq2, hzq3, hF⟩ := bnd_ex hF
    refine r_callVi (As := [.int (b2i true)]) (rest := []) C hR (C_M_readAll l hl0 G true mq1 _ _ hzq3) (by decide) (by decide) ob78 rfl wX11_223 rfl rfl (Nat.le_of_ble_eq_true rfl) hl.1 ⟨Nat.zero_le _, Nat.zero_le _⟩ (dk DX11_ground 17 rfl) (fun H locs hR => ?_)
    refine lv_istore_n (lv' := [(1, .int xq4), (0, .ref (G.2.1 + 78))]) hx hb (dk DX11_ground 18 rfl) rfl hl (by decide) rfl (fun ls hl => ?_)
    refine lv_aload_n hx hb (dk DX11_ground 19 rfl) rfl (lv_at hl 1 rfl) ?_
    refine lv_iload_n hx hb (dk DX11_ground 20 rfl) rfl (lv_at hl 0 rfl) ?_
    obtain ⟨k46_6, ek46_6, hF⟩ := lt_ex hF
    have J46 : ∀ (xq6 : Int32) (mq5 : Mem) (H : Heap) (locs : List Loc) (ls : Array Slot), lv_has ls 3 [(0, .ref (G.2.1 + 78)), (1, .int xq4)] → Rp G mr0 N0 mq5 s H locs → k46_6 xq6 mq5 = some (v, m') → W p l e (rmD 43) s mid args below meth c H locs 0 0 (MQ below (QR G mr0 N0 (some (.int v)) m') args s 0 0 (fun q => G.2.1 ≤ q)) (F0 mid 46 ls [.int xq6, .ref (G.2.1 + 78)]) := by
      intro xq6 mq5 H locs ls hl hR hF
      rw [ek46_6] at hF
      refine pX11_30 (x := xq6) C hR ob78 (dk DX11_ground 26 rfl) (fun H locs hR => ?_)
      obtain ⟨mq7, emq7, hF⟩ := lt_ex hF
      have hR := Rp_at emq7 hR
      refine lv_aload_n hx hb (dk DX11_ground 27 rfl) rfl (lv_at hl 0 rfl) ?_
      refine lv_iload_n hx hb (dk DX11_ground 28 rfl) rfl (lv_at hl 1 rfl) ?_
      obtain ⟨k59_9, ek59_9, hF⟩ := lt_ex hF
      have J59 : ∀ (zq9 : Bool) (mq8 : Mem) (H : Heap) (locs : List Loc) (ls : Array Slot), lv_has ls 3 [(0, .ref (G.2.1 + 78))] → Rp G mr0 N0 mq8 s H locs → k59_9 zq9 mq8 = some (v, m') → W p l e (rmD 43) s mid args below meth c H locs 0 0 (MQ below (QR G mr0 N0 (some (.int v)) m') args s 0 0 (fun q => G.2.1 ≤ q)) (F0 mid 59 ls [.int (b2i zq9), .ref (G.2.1 + 78)]) := by
        intro zq9 mq8 H locs ls hl hR hF
        rw [ek59_9] at hF
        refine lv_iconst (v := (1 : Int32)) hx hb (dk DX11_ground 33 rfl) (by decide) ?_
        obtain ⟨zq12, mq10, hzq11, hF⟩ := bnd_ex hF
        refine r_callVi (As := [.int (b2i zq9), .int (1 : Int32)]) (rest := []) C hR (C_M_throwsIf l hl0 G zq9 (1 : Int32) mq8 _ _ hzq11) (by decide) (by decide) ob78 rfl wX11_227 rfl rfl (Nat.le_of_ble_eq_true rfl) hl.1 ⟨Nat.zero_le _, Nat.zero_le _⟩ (dk DX11_ground 34 rfl) (fun H locs hR => ?_)
        obtain ⟨k90_13, ek90_13, hF⟩ := lt_ex hF
        have J90 : ∀ (mq13 : Mem) (H : Heap) (locs : List Loc) (ls : Array Slot), lv_has ls 3 [(0, .ref (G.2.1 + 78))] → Rp G mr0 N0 mq13 s H locs → k90_13  mq13 = some (v, m') → W p l e (rmD 43) s mid args below meth c H locs 0 0 (MQ below (QR G mr0 N0 (some (.int v)) m') args s 0 0 (fun q => G.2.1 ≤ q)) (F0 mid 90 ls []) := by
          intro  mq13 H locs ls hl hR hF
          rw [ek90_13] at hF
          refine lv_iconst (v := (0 : Int32)) hx hb (dk DX11_ground 49 rfl) (by decide) ?_
          refine lv_istore_n (lv' := [(2, .int (0 : Int32)), (0, .ref (G.2.1 + 78))]) hx hb (dk DX11_ground 50 rfl) rfl hl (by decide) rfl (fun ls hl => ?_)
          have L92 : ∀ (nf : Nat) (xq15 : Int32) (mq14 : Mem) (H : Heap) (locs : List Loc) (ls : Array Slot), lv_has ls 3 [(0, .ref (G.2.1 + 78)), (2, .int xq15)] → Rp G mr0 N0 mq14 s H locs → F_M_ground_L92 nf xq15 mq14 = some (v, m') → W p l e (rmD 43) s mid args below meth c H locs 0 0 (MQ below (QR G mr0 N0 (some (.int v)) m') args s 0 0 (fun q => G.2.1 ≤ q)) (F0 mid 92 ls []) := by
            intro nf
            induction nf with
            | zero =>
              intro xq15 mq14 H locs ls hl hR hF
              rw [F_M_ground_L92] at hF
              cases hF
            | succ nf ihq17 =>
              intro xq15 mq14 H locs ls hl hR hF
              rw [F_M_ground_L92] at hF
              refine lv_iload_n hx hb (dk DX11_ground 51 rfl) rfl (lv_at hl 1 rfl) ?_
              refine lv_sipush (v := (1135 : Int32)) hx hb (dk DX11_ground 52 rfl) (by decide) ?_
              refine lv_icmp_ge (tgt := 117) hx hb (dk DX11_ground 53 rfl) (by decide) (fun c96 => ?_) (fun c96 => ?_)
              · have hF := if_t c96 hF
                refine lv_iconst (v := (0 : Int32)) hx hb (dk DX11_ground 64 rfl) (by decide) ?_
                cases hF
                exact r_iret C hrt hR (dk DX11_ground 65 rfl)
              · have hF := if_f c96 hF
                refine lv_aload_n hx hb (dk DX11_ground 54 rfl) rfl (lv_at hl 0 rfl) ?_
                refine gX11_13 C hR ob78 rf78_1 (dk DX11_ground 55 rfl) ?_
                refine lv_iload_n hx hb (dk DX11_ground 56 rfl) rfl (lv_at hl 1 rfl) ?_
                refine lv_aload_n hx hb (dk DX11_ground 57 rfl) rfl (lv_at hl 0 rfl) ?_
                refine gX11_20 C hR ob78 rf78_3 (dk DX11_ground 58 rfl) ?_
                refine lv_iload_n hx hb (dk DX11_ground 59 rfl) rfl (lv_at hl 1 rfl) ?_
                obtain ⟨hq18, hF⟩ := ckB_ex hF
                refine r_iald C hR ob81 hq18 (dk DX11_ground 60 rfl) ?_
                refine lv_topi (fun xq19 exq19 => ?_)
                have hF := lt_at exq19 hF
                obtain ⟨hq21, hF⟩ := ckB_ex hF
                refine r_iast C hR ob79 hq21 (dk DX11_ground 61 rfl) (fun H locs hR => ?_)
                obtain ⟨mq20, emq20, hF⟩ := lt_ex hF
                have hR := Rp_at emq20 hR
                obtain ⟨xq22, exq22, hF⟩ := lt_ex hF
                refine lv_iinc (v := xq22) (lv' := [(2, .int xq22), (0, .ref (G.2.1 + 78))]) hx hb (dk DX11_ground 62 rfl) hl (k := 1) rfl (by rw [exq22]; rfl) (by decide) rfl (fun ls hl => ?_)
                refine lv_goto (tgt := 92) hx hb (dk DX11_ground 63 rfl) (by decide) ?_
                exact ihq17 xq22 mq20 _ _ ls (lv_sub hl [1, 0] rfl) hR hF
          exact L92 1000000 (0 : Int32) mq13 _ _ ls (lv_sub hl [1, 0] rfl) hR hF
        refine z_ifne (tgt := 90) hx hb (dk DX11_ground 35 rfl) (by decide) (fun c63 => ?_) (fun c63 => ?_)
        · have hF := if_t c63 hF
          exact J90 mq10 _ _ ls (lv_sub hl [0] rfl) hR hF
        · have hF := if_f c63 hF
          refine lv_aload_n hx hb (dk DX11_ground 36 rfl) rfl (lv_at hl 0 rfl) ?_
          refine lv_aload_n hx hb (dk DX11_ground 37 rfl) rfl (lv_at hl 0 rfl) ?_
          refine gX11_13 C hR ob78 rf78_1 (dk DX11_ground 38 rfl) ?_
          refine lv_iconst (v := (3 : Int32)) hx hb (dk DX11_ground 39 rfl) (by decide) ?_
          refine r_iald C hR ob79 rfl (dk DX11_ground 40 rfl) ?_
          refine lv_bipush (v := (12 : Int32)) hx hb (dk DX11_ground 41 rfl) (by decide) ?_
          obtain ⟨k83_24, ek83_24, hF⟩ := lt_ex hF
          have J83 : ∀ (zq24 : Bool) (mq23 : Mem) (H : Heap) (locs : List Loc) (ls : Array Slot), lv_has ls 3 [(0, .ref (G.2.1 + 78))] → Rp G mr0 N0 mq23 s H locs → k83_24 zq24 mq23 = some (v, m') → W p l e (rmD 43) s mid args below meth c H locs 0 0 (MQ below (QR G mr0 N0 (some (.int v)) m') args s 0 0 (fun q => G.2.1 ≤ q)) (F0 mid 83 ls [.int (b2i zq24), .ref (G.2.1 + 78)]) := by
            intro zq24 mq23 H locs ls hl hR hF
            rw [ek83_24] at hF
            refine lv_iconst (v := (2 : Int32)) hx hb (dk DX11_ground 46 rfl) (by decide) ?_
            obtain ⟨zq27, mq25, hzq26, hF⟩ := bnd_ex hF
            refine r_callVi (As := [.int (b2i zq24), .int (2 : Int32)]) (rest := []) C hR (C_M_throwsIf l hl0 G zq24 (2 : Int32) mq23 _ _ hzq26) (by decide) (by decide) ob78 rfl wX11_227 rfl rfl (Nat.le_of_ble_eq_true rfl) hl.1 ⟨Nat.zero_le _, Nat.zero_le _⟩ (dk DX11_ground 47 rfl) (fun H locs hR => ?_)
            refine z_ifeq (tgt := 119) hx hb (dk DX11_ground 48 rfl) (by decide) (fun c87 => ?_) (fun c87 => ?_)
            · have hF := if_f c87 hF
              refine lv_aload_n hx hb (dk DX11_ground 66 rfl) rfl (lv_at hl 0 rfl) ?_
              refine gX11_13 C hR ob78 rf78_1 (dk DX11_ground 67 rfl) ?_
              refine lv_iconst (v := (3 : Int32)) hx hb (dk DX11_ground 68 rfl) (by decide) ?_
              refine lv_dup2_11 hx hb (dk DX11_ground 69 rfl) rfl rfl ?_
              refine r_iald C hR ob79 rfl (dk DX11_ground 70 rfl) ?_
              refine lv_iconst (v := (1 : Int32)) hx hb (dk DX11_ground 71 rfl) (by decide) ?_
              refine lv_iadd hx hb (dk DX11_ground 72 rfl) ?_
              refine r_iast C hR ob79 rfl (dk DX11_ground 73 rfl) (fun H locs hR => ?_)
              obtain ⟨mq28, emq28, hF⟩ := lt_ex hF
              have hR := Rp_at emq28 hR
              refine lv_aload_n hx hb (dk DX11_ground 74 rfl) rfl (lv_at hl 0 rfl) ?_
              refine lv_iconst (v := (0 : Int32)) hx hb (dk DX11_ground 75 rfl) (by decide) ?_
              refine pX11_60 (x := (0 : Int32)) C hR ob78 (dk DX11_ground 76 rfl) (fun H locs hR => ?_)
              obtain ⟨mq29, emq29, hF⟩ := lt_ex hF
              have hR := Rp_at emq29 hR
              refine lv_aload_n hx hb (dk DX11_ground 77 rfl) rfl (lv_at hl 0 rfl) ?_
              refine gX11_13 C hR ob78 rf78_1 (dk DX11_ground 78 rfl) ?_
              refine lv_iconst (v := (3 : Int32)) hx hb (dk DX11_ground 79 rfl) (by decide) ?_
              refine r_iald C hR ob79 rfl (dk DX11_ground 80 rfl) ?_
              cases hF
              exact r_iret C hrt hR (dk DX11_ground 81 rfl)
            · have hF := if_t c87 hF
              exact J90 mq25 _ _ ls (lv_sub hl [0] rfl) hR hF
          refine lv_icmp_ne (tgt := 82) hx hb (dk DX11_ground 42 rfl) (by decide) (fun c75 => ?_) (fun c75 => ?_)
          · have hF := if_f c75 hF
            refine lv_iconst (v := (0 : Int32)) hx hb (dk DX11_ground 45 rfl) (by decide) ?_
            exact J83 false mq10 _ _ ls (lv_sub hl [0] rfl) hR hF
          · have hF := if_t c75 hF
            refine lv_iconst (v := (1 : Int32)) hx hb (dk DX11_ground 43 rfl) (by decide) ?_
            refine lv_goto (tgt := 83) hx hb (dk DX11_ground 44 rfl) (by decide) ?_
            exact J83 true mq10 _ _ ls (lv_sub hl [0] rfl) hR hF
      refine lv_if_ge (tgt := 58) hx hb (dk DX11_ground 29 rfl) (by decide) (fun c51 => ?_) (fun c51 => ?_)
      · have hF := if_t c51 hF
        refine lv_iconst (v := (0 : Int32)) hx hb (dk DX11_ground 32 rfl) (by decide) ?_
        exact J59 false mq7 _ _ ls (lv_sub hl [0] rfl) hR hF
      · have hF := if_f c51 hF
        refine lv_iconst (v := (1 : Int32)) hx hb (dk DX11_ground 30 rfl) (by decide) ?_
        refine lv_goto (tgt := 59) hx hb (dk DX11_ground 31 rfl) (by decide) ?_
        exact J59 true mq7 _ _ ls (lv_sub hl [0] rfl) hR hF
    refine lv_if_ge (tgt := 45) hx hb (dk DX11_ground 21 rfl) (by decide) (fun c35 => ?_) (fun c35 => ?_)
    · have hF := if_t c35 hF
      refine lv_iconst (v := (-1 : Int32)) hx hb (dk DX11_ground 25 rfl) (by decide) ?_
      exact J46 (-1 : Int32) mq2 _ _ ls (lv_sub hl [1, 0] rfl) hR hF
    · have hF := if_f c35 hF
      refine lv_aload_n hx hb (dk DX11_ground 22 rfl) rfl (lv_at hl 1 rfl) ?_
      refine gX11_84 C hR ob78 (dk DX11_ground 23 rfl) ?_
      refine lv_goto (tgt := 46) hx hb (dk DX11_ground 24 rfl) (by decide) ?_
      exact J46 (gI mq2 78 11) mq2 _ _ ls (lv_sub hl [1, 0] rfl) hR hF
  have L2 : ∀ (nf : Nat) (xq31 : Int32) (mq30 : Mem) (H : Heap) (locs : List Loc) (ls : Array Slot), lv_has ls 3 [(0, .ref (G.2.1 + 78)), (1, .int xq31)] → Rp G mr0 N0 mq30 s H locs → F_M_ground_L2 k27_1 nf xq31 mq30 = some (v, m') → W p l e (rmD 43) s mid args below meth c H locs 0 0 (MQ below (QR G mr0 N0 (some (.int v)) m') args s 0 0 (fun q => G.2.1 ≤ q)) (F0 mid 2 ls []) := by
    intro nf
    induction nf with
    | zero =>
      intro xq31 mq30 H locs ls hl hR hF
      rw [F_M_ground_L2] at hF
      cases hF
    | succ nf ihq33 =>
      intro xq31 mq30 H locs ls hl hR hF
      rw [F_M_ground_L2] at hF
      refine lv_iload_n hx hb (dk DX11_ground 2 rfl) rfl (lv_at hl 1 rfl) ?_
      refine lv_sipush (v := (1135 : Int32)) hx hb (dk DX11_ground 3 rfl) (by decide) ?_
      refine lv_icmp_ge (tgt := 27) hx hb (dk DX11_ground 4 rfl) (by decide) (fun c6 => ?_) (fun c6 => ?_)
      · have hF := if_t c6 hF
        exact J27 mq30 _ _ ls (lv_sub hl [0] rfl) hR hF
      · have hF := if_f c6 hF
        refine lv_aload_n hx hb (dk DX11_ground 5 rfl) rfl (lv_at hl 0 rfl) ?_
        refine gX11_20 C hR ob78 rf78_3 (dk DX11_ground 6 rfl) ?_
        refine lv_iload_n hx hb (dk DX11_ground 7 rfl) rfl (lv_at hl 1 rfl) ?_
        refine lv_aload_n hx hb (dk DX11_ground 8 rfl) rfl (lv_at hl 0 rfl) ?_
        refine gX11_13 C hR ob78 rf78_1 (dk DX11_ground 9 rfl) ?_
        refine lv_iload_n hx hb (dk DX11_ground 10 rfl) rfl (lv_at hl 1 rfl) ?_
        obtain ⟨hq34, hF⟩ := ckB_ex hF
        refine r_iald C hR ob79 hq34 (dk DX11_ground 11 rfl) ?_
        refine lv_topi (fun xq35 exq35 => ?_)
        have hF := lt_at exq35 hF
        obtain ⟨hq37, hF⟩ := ckB_ex hF
        refine r_iast C hR ob81 hq37 (dk DX11_ground 12 rfl) (fun H locs hR => ?_)
        obtain ⟨mq36, emq36, hF⟩ := lt_ex hF
        have hR := Rp_at emq36 hR
        obtain ⟨xq38, exq38, hF⟩ := lt_ex hF
        refine lv_iinc (v := xq38) (lv' := [(1, .int xq38), (0, .ref (G.2.1 + 78))]) hx hb (dk DX11_ground 13 rfl) hl (k := 1) rfl (by rw [exq38]; rfl) (by decide) rfl (fun ls hl => ?_)
        refine lv_goto (tgt := 2) hx hb (dk DX11_ground 14 rfl) (by decide) ?_
        exact ihq33 xq38 mq36 _ _ ls (lv_sub hl [1, 0] rfl) hR hF
  exact L2 1000000 (0 : Int32) m0 _ _ ls (lv_sub hl [1, 0] rfl) hR hF
