set_option maxHeartbeats 4000000 in
set_option maxRecDepth 100000 in
theorem C_M_worth (l : Launch) (hl0 : l.stackTraces = false) (G : GG) (a1 : Int32) (a2 : Int32) (m0 : Mem) (v : Int64) (m' : Mem) (hF : F_M_worth a1 a2 m0 = some (v, m')) : Ct l G mr0 N0 yX11_worth cX11_worth 3 (some .long) 12 [.ref (G.2.1 + 78), .int a1, .int a2] m0 (some (.long v)) m' := by
  refine Ct_of hl0 (by decide) (Nat.le_of_ble_eq_true rfl) ?_
  intro p e s mid args below meth c ls C hrt hl hR
  have hx := C.1.1
  have hb := C.1.2.1
  have hl : lv_has ls 3 [(0, .ref (G.2.1 + 78)), (1, .int a1), (2, .int a2)] := hl
  unfold F_M_worth at hF
  refine lv_aload_n hx hb (dk DX11_worth 0 rfl) rfl (lv_at hl 0 rfl) ?_
  refine lv_iconst (v := (0 : Int32)) hx hb (dk DX11_worth 1 rfl) (by decide) ?_
  refine pX11_3 (x := (0 : Int32)) C hR ob78 (dk DX11_worth 2 rfl) (fun H locs hR => ?_)
  obtain ⟨mq1, emq1, hF⟩ := lt_ex hF
  have hR := Rp_at emq1 hR
  refine lv_aload_n hx hb (dk DX11_worth 3 rfl) rfl (lv_at hl 0 rfl) ?_
  refine lv_iload_n hx hb (dk DX11_worth 4 rfl) rfl (lv_at hl 1 rfl) ?_
  obtain ⟨zq4, mq2, hzq3, hF⟩ := bnd_ex hF
  refine r_callSi (As := [.int a1]) (rest := [.ref (G.2.1 + 78)]) C hR (C_M_noSide l hl0 G a1 mq1 _ _ hzq3) (by decide) (by decide) wX11_243 rfl rfl (Nat.le_of_ble_eq_true rfl) hl.1 ⟨Nat.zero_le _, Nat.zero_le _⟩ (dk DX11_worth 5 rfl) (fun H locs hR => ?_)
  refine lv_iconst (v := (1 : Int32)) hx hb (dk DX11_worth 6 rfl) (by decide) ?_
  obtain ⟨zq7, mq5, hzq6, hF⟩ := bnd_ex hF
  refine r_callVi (As := [.int (b2i zq4), .int (1 : Int32)]) (rest := []) C hR (C_M_throwsIf l hl0 G zq4 (1 : Int32) mq2 _ _ hzq6) (by decide) (by decide) ob78 rfl wX11_227 rfl rfl (Nat.le_of_ble_eq_true rfl) hl.1 ⟨Nat.zero_le _, Nat.zero_le _⟩ (dk DX11_worth 7 rfl) (fun H locs hR => ?_)
  refine z_ifne (tgt := 39) hx hb (dk DX11_worth 8 rfl) (by decide) (fun c14 => ?_) (fun c14 => ?_)
  · have hF := if_t c14 hF
    refine lv_lconst (v := (0 : Int64)) hx hb (dk DX11_worth 21 rfl) (by decide) ?_
    cases hF
    exact r_lret C hrt hR (dk DX11_worth 22 rfl)
  · have hF := if_f c14 hF
    refine lv_aload_n hx hb (dk DX11_worth 9 rfl) rfl (lv_at hl 0 rfl) ?_
    refine lv_iload_n hx hb (dk DX11_worth 10 rfl) rfl (lv_at hl 2 rfl) ?_
    refine lv_iconst (v := (0 : Int32)) hx hb (dk DX11_worth 11 rfl) (by decide) ?_
    refine lv_iconst (v := (3 : Int32)) hx hb (dk DX11_worth 12 rfl) (by decide) ?_
    obtain ⟨zq10, mq8, hzq9, hF⟩ := bnd_ex hF
    refine r_callSi (As := [.int a2, .int (0 : Int32), .int (3 : Int32)]) (rest := [.ref (G.2.1 + 78)]) C hR (C_M_in l hl0 G a2 (0 : Int32) (3 : Int32) mq5 _ _ hzq9) (by decide) (by decide) wX11_67 rfl rfl (Nat.le_of_ble_eq_true rfl) hl.1 ⟨Nat.zero_le _, Nat.zero_le _⟩ (dk DX11_worth 13 rfl) (fun H locs hR => ?_)
    obtain ⟨k32_12, ek32_12, hF⟩ := lt_ex hF
    have J32 : ∀ (zq12 : Bool) (mq11 : Mem) (H : Heap) (locs : List Loc) (ls : Array Slot), lv_has ls 3 [(0, .ref (G.2.1 + 78)), (1, .int a1), (2, .int a2)] → Rp G mr0 N0 mq11 s H locs → k32_12 zq12 mq11 = some (v, m') → W p l e (rmD 12) s mid args below meth c H locs 0 0 (MQ below (QR G mr0 N0 (some (.long v)) m') args s 0 0 (fun q => G.2.1 ≤ q)) (F0 mid 32 ls [.int (b2i zq12), .ref (G.2.1 + 78)]) := by
      intro zq12 mq11 H locs ls hl hR hF
      rw [ek32_12] at hF
      refine lv_iconst (v := (2 : Int32)) hx hb (dk DX11_worth 18 rfl) (by decide) ?_
      obtain ⟨zq15, mq13, hzq14, hF⟩ := bnd_ex hF
      refine r_callVi (As := [.int (b2i zq12), .int (2 : Int32)]) (rest := []) C hR (C_M_throwsIf l hl0 G zq12 (2 : Int32) mq11 _ _ hzq14) (by decide) (by decide) ob78 rfl wX11_227 rfl rfl (Nat.le_of_ble_eq_true rfl) hl.1 ⟨Nat.zero_le _, Nat.zero_le _⟩ (dk DX11_worth 19 rfl) (fun H locs hR => ?_)
      refine z_ifeq (tgt := 41) hx hb (dk DX11_worth 20 rfl) (by decide) (fun c36 => ?_) (fun c36 => ?_)
      · have hF := if_f c36 hF
        refine lv_iload_n hx hb (dk DX11_worth 23 rfl) rfl (lv_at hl 2 rfl) ?_
        by_cases d0 : a2 = (0 : Int32)
        · have hF := if_t d0 hF
          refine lv_tableIn (tgt := 68) hx hb (dk DX11_worth 24 rfl) (by rw [d0]; decide) (by rw [d0]; decide) (by rw [d0]; rfl) (by decide) ?_
          refine lv_aload_n hx hb (dk DX11_worth 25 rfl) rfl (lv_at hl 0 rfl) ?_
          refine lv_iload_n hx hb (dk DX11_worth 26 rfl) rfl (lv_at hl 1 rfl) ?_
          refine lv_iconst (v := (1 : Int32)) hx hb (dk DX11_worth 27 rfl) (by decide) ?_
          obtain ⟨yq18, mq16, hzq17, hF⟩ := bnd_ex hF
          refine r_callVl (As := [.int a1, .int (b2i true)]) (rest := []) C hR (C_M_tossWorth l hl0 G a1 true mq13 _ _ hzq17) (by decide) (by decide) ob78 rfl wX11_430 rfl rfl (Nat.le_of_ble_eq_true rfl) hl.1 ⟨Nat.zero_le _, Nat.zero_le _⟩ (dk DX11_worth 28 rfl) (fun H locs hR => ?_)
          cases hF
          exact r_lret C hrt hR (dk DX11_worth 29 rfl)
        · have hF := if_f d0 hF
          by_cases d1 : a2 = (1 : Int32)
          · have hF := if_t d1 hF
            refine lv_tableIn (tgt := 75) hx hb (dk DX11_worth 24 rfl) (by rw [d1]; decide) (by rw [d1]; decide) (by rw [d1]; rfl) (by decide) ?_
            refine lv_aload_n hx hb (dk DX11_worth 30 rfl) rfl (lv_at hl 0 rfl) ?_
            refine lv_iload_n hx hb (dk DX11_worth 31 rfl) rfl (lv_at hl 1 rfl) ?_
            refine lv_iconst (v := (0 : Int32)) hx hb (dk DX11_worth 32 rfl) (by decide) ?_
            obtain ⟨yq21, mq19, hzq20, hF⟩ := bnd_ex hF
            refine r_callVl (As := [.int a1, .int (b2i false)]) (rest := []) C hR (C_M_tossWorth l hl0 G a1 false mq13 _ _ hzq20) (by decide) (by decide) ob78 rfl wX11_430 rfl rfl (Nat.le_of_ble_eq_true rfl) hl.1 ⟨Nat.zero_le _, Nat.zero_le _⟩ (dk DX11_worth 33 rfl) (fun H locs hR => ?_)
            cases hF
            exact r_lret C hrt hR (dk DX11_worth 34 rfl)
          · have hF := if_f d1 hF
            by_cases d2 : a2 = (2 : Int32)
            · have hF := if_t d2 hF
              refine lv_tableIn (tgt := 82) hx hb (dk DX11_worth 24 rfl) (by rw [d2]; decide) (by rw [d2]; decide) (by rw [d2]; rfl) (by decide) ?_
              refine lv_aload_n hx hb (dk DX11_worth 35 rfl) rfl (lv_at hl 0 rfl) ?_
              refine lv_iload_n hx hb (dk DX11_worth 36 rfl) rfl (lv_at hl 1 rfl) ?_
              refine lv_iconst (v := (1 : Int32)) hx hb (dk DX11_worth 37 rfl) (by decide) ?_
              obtain ⟨yq24, mq22, hzq23, hF⟩ := bnd_ex hF
              refine r_callVl (As := [.int a1, .int (b2i true)]) (rest := []) C hR (C_M_tossWorth l hl0 G a1 true mq13 _ _ hzq23) (by decide) (by decide) ob78 rfl wX11_430 rfl rfl (Nat.le_of_ble_eq_true rfl) hl.1 ⟨Nat.zero_le _, Nat.zero_le _⟩ (dk DX11_worth 38 rfl) (fun H locs hR => ?_)
              refine lv_aload_n hx hb (dk DX11_worth 39 rfl) rfl (lv_at hl 0 rfl) ?_
              refine lv_iload_n hx hb (dk DX11_worth 40 rfl) rfl (lv_at hl 1 rfl) ?_
              refine lv_iconst (v := (0 : Int32)) hx hb (dk DX11_worth 41 rfl) (by decide) ?_
              obtain ⟨yq27, mq25, hzq26, hF⟩ := bnd_ex hF
              refine r_callVl (As := [.int a1, .int (b2i false)]) (rest := [.long yq24]) C hR (C_M_tossWorth l hl0 G a1 false mq22 _ _ hzq26) (by decide) (by decide) ob78 rfl wX11_430 rfl rfl (Nat.le_of_ble_eq_true rfl) hl.1 ⟨Nat.zero_le _, Nat.zero_le _⟩ (dk DX11_worth 42 rfl) (fun H locs hR => ?_)
              refine lv_lsub hx hb (dk DX11_worth 43 rfl) ?_
              refine r_abL C (gd q2177 rfl) (by decide) (Nat.le_of_ble_eq_true rfl) hl.1 ⟨Nat.zero_le _, Nat.zero_le _⟩ (dk DX11_worth 44 rfl) ?_
              cases hF
              exact r_lret C hrt hR (dk DX11_worth 45 rfl)
            · have hF := if_f d2 hF
              have n0 := i32_ne d0 (z := 0) rfl
              have n1 := i32_ne d1 (z := 1) rfl
              have n2 := i32_ne d2 (z := 2) rfl
              refine lv_tableOut (tgt := 99) hx hb (dk DX11_worth 24 rfl) (by omega) (by decide) ?_
              refine lv_aload_n hx hb (dk DX11_worth 46 rfl) rfl (lv_at hl 0 rfl) ?_
              refine lv_iload_n hx hb (dk DX11_worth 47 rfl) rfl (lv_at hl 1 rfl) ?_
              obtain ⟨yq30, mq28, hzq29, hF⟩ := bnd_ex hF
              refine r_callVl (As := [.int a1]) (rest := []) C hR (C_M_leftTo l hl0 G a1 mq13 _ _ hzq29) (by decide) (by decide) ob78 rfl wX11_440 rfl rfl (Nat.le_of_ble_eq_true rfl) hl.1 ⟨Nat.zero_le _, Nat.zero_le _⟩ (dk DX11_worth 48 rfl) (fun H locs hR => ?_)
              cases hF
              exact r_lret C hrt hR (dk DX11_worth 49 rfl)
      · have hF := if_t c36 hF
        refine lv_lconst (v := (0 : Int64)) hx hb (dk DX11_worth 21 rfl) (by decide) ?_
        cases hF
        exact r_lret C hrt hR (dk DX11_worth 22 rfl)
    refine z_ifne (tgt := 31) hx hb (dk DX11_worth 14 rfl) (by decide) (fun c24 => ?_) (fun c24 => ?_)
    · have hF := if_t c24 hF
      refine lv_iconst (v := (0 : Int32)) hx hb (dk DX11_worth 17 rfl) (by decide) ?_
      exact J32 false mq8 _ _ ls (lv_sub hl [0, 1, 2] rfl) hR hF
    · have hF := if_f c24 hF
      refine lv_iconst (v := (1 : Int32)) hx hb (dk DX11_worth 15 rfl) (by decide) ?_
      refine lv_goto (tgt := 32) hx hb (dk DX11_worth 16 rfl) (by decide) ?_
      exact J32 true mq8 _ _ ls (lv_sub hl [0, 1, 2] rfl) hR hF
