set_option maxHeartbeats 4000000 in
set_option maxRecDepth 100000 in
theorem C_Od_waysGoingOn (l : Launch) (hl0 : l.stackTraces = false) (G : GG) (D : Nat) (rc : Int32 → Int32 → Int32 → Int32 → Mem → Option (Int64 × Mem)) (hrc : ∀ (b0 : Int32) (b1 : Int32) (b2 : Int32) (b3 : Int32) (m0 : Mem) (v : Int64) (m' : Mem), rc b0 b1 b2 b3 m0 = some (v, m') → Ct l G mr0 N0 yX7_waysAt cX7_waysAt 8 (some .long) D [.ref (G.2.1 + 2), .int b0, .int b1, .int b2, .int b3] m0 (some (.long v)) m') (hD : 4 ≤ D) (a1 : Int32) (a2 : Int32) (a3 : Int32) (a4 : Int32) (m0 : Mem) (v : Int64) (m' : Mem) (hF : F_Od_waysGoingOn rc a1 a2 a3 a4 m0 = some (v, m')) : Ct l G mr0 N0 yX7_waysGoingOn cX7_waysGoingOn 5 (some .long) (D + 5) [.ref (G.2.1 + 2), .int a1, .int a2, .int a3, .int a4] m0 (some (.long v)) m' := by
  refine Ct_of hl0 (by decide) (Nat.le_of_ble_eq_true rfl) ?_
  intro p e s mid args below meth c ls C hrt hl hR
  have hx := C.1.1
  have hb := C.1.2.1
  have hl : lv_has ls 5 [(0, .ref (G.2.1 + 2)), (1, .int a1), (2, .int a2), (3, .int a3), (4, .int a4)] := hl
  unfold F_Od_waysGoingOn at hF
  refine lv_aload_n hx hb (dk DX7_waysGoingOn 0 rfl) rfl (lv_at hl 0 rfl) ?_
  refine lv_iload_n hx hb (dk DX7_waysGoingOn 1 rfl) rfl (lv_at hl 1 rfl) ?_
  refine lv_iload_n hx hb (dk DX7_waysGoingOn 2 rfl) rfl (lv_at hl 2 rfl) ?_
  refine lv_iload_n hx hb (dk DX7_waysGoingOn 3 rfl) rfl (lv_at hl 3 rfl) ?_
  refine lv_bipush (v := (10 : Int32)) hx hb (dk DX7_waysGoingOn 4 rfl) (by decide) ?_
  obtain ⟨k14_2, ek14_2, hF⟩ := lt_ex hF
  have J14 : ∀ (xq2 : Int32) (mq1 : Mem) (H : Heap) (locs : List Loc) (ls : Array Slot), lv_has ls 5 [(4, .int a4)] → Rp G mr0 N0 mq1 s H locs → k14_2 xq2 mq1 = some (v, m') → W p l e (rmD (D + 5)) s mid args below meth c H locs 0 0 (MQ below (QR G mr0 N0 (some (.long v)) m') args s 0 0 (fun q => G.2.1 ≤ q)) (F0 mid 14 ls [.int xq2, .int a2, .int a1, .ref (G.2.1 + 2)]) := by
    intro xq2 mq1 H locs ls hl hR hF
    rw [ek14_2] at hF
    refine lv_iload hx hb (dk DX7_waysGoingOn 9 rfl) (lv_at hl 0 rfl) ?_
    refine lv_iconst (v := (0 : Int32)) hx hb (dk DX7_waysGoingOn 10 rfl) (by decide) ?_
    obtain ⟨yq5, mq3, hzq4, hF⟩ := bnd_ex hF
    refine r_callVl (As := [.int a1, .int a2, .int xq2, .int a4, .int (b2i false)]) (rest := []) C hR (C_Od_waysOfSession l hl0 G D rc hrc (by omega) a1 a2 xq2 a4 false mq1 _ _ hzq4) (by omega) (by decide) ob2 rfl wX7_119 rfl rfl (Nat.le_of_ble_eq_true rfl) hl.1 ⟨Nat.zero_le _, Nat.zero_le _⟩ (dk DX7_waysGoingOn 11 rfl) (fun H locs hR => ?_)
    cases hF
    exact r_lret C hrt hR (dk DX7_waysGoingOn 12 rfl)
  refine lv_icmp_ne (tgt := 13) hx hb (dk DX7_waysGoingOn 5 rfl) (by decide) (fun c6 => ?_) (fun c6 => ?_)
  · have hF := if_f c6 hF
    refine lv_iload_n hx hb (dk DX7_waysGoingOn 8 rfl) rfl (lv_at hl 3 rfl) ?_
    exact J14 a3 m0 _ _ ls (lv_sub hl [4] rfl) hR hF
  · have hF := if_t c6 hF
    refine lv_iconst (v := (0 : Int32)) hx hb (dk DX7_waysGoingOn 6 rfl) (by decide) ?_
    refine lv_goto (tgt := 14) hx hb (dk DX7_waysGoingOn 7 rfl) (by decide) ?_
    exact J14 (0 : Int32) m0 _ _ ls (lv_sub hl [4] rfl) hR hF
set_option maxHeartbeats 4000000 in
set_option maxRecDepth 100000 in
theorem C_Od_otherChoice (l : Launch) (hl0 : l.stackTraces = false) (G : GG) (a1 : Int32) (a2 : Int32) (a3 : Int32) (m0 : Mem) (v : Int32) (m' : Mem) (hF : F_Od_otherChoice a1 a2 a3 m0 = some (v, m')) : Ct l G mr0 N0 yX7_otherChoice cX7_otherChoice 4 (some .int) 2 [.ref (G.2.1 + 2), .int a1, .int a2, .int a3] m0 (some (.int v)) m' := by
  refine Ct_of hl0 (by decide) (Nat.le_of_ble_eq_true rfl) ?_
  intro p e s mid args below meth c ls C hrt hl hR
  have hx := C.1.1
  have hb := C.1.2.1
  have hl : lv_has ls 4 [(0, .ref (G.2.1 + 2)), (1, .int a1), (2, .int a2), (3, .int a3)] := hl
  unfold F_Od_otherChoice at hF
  refine lv_iload_n hx hb (dk DX7_otherChoice 0 rfl) rfl (lv_at hl 1 rfl) ?_
  obtain ⟨xq3, mq1, hzq2, hF⟩ := bnd_ex hF
  refine r_callSi (As := [.int a1]) (rest := []) C hR (C_Od_inningsOf l hl0 G a1 m0 _ _ hzq2) (by decide) (by decide) wX7_77 rfl rfl (Nat.le_of_ble_eq_true rfl) hl.1 ⟨Nat.zero_le _, Nat.zero_le _⟩ (dk DX7_otherChoice 1 rfl) (fun H locs hR => ?_)
  refine lv_iconst (v := (3 : Int32)) hx hb (dk DX7_otherChoice 2 rfl) (by decide) ?_
  refine lv_icmp_ne (tgt := 10) hx hb (dk DX7_otherChoice 3 rfl) (by decide) (fun c5 => ?_) (fun c5 => ?_)
  · have hF := if_f c5 hF
    refine lv_iload_n hx hb (dk DX7_otherChoice 6 rfl) rfl (lv_at hl 2 rfl) ?_
    refine lv_bipush (v := (10 : Int32)) hx hb (dk DX7_otherChoice 7 rfl) (by decide) ?_
    refine lv_icmp_eq (tgt := 18) hx hb (dk DX7_otherChoice 8 rfl) (by decide) (fun c13 => ?_) (fun c13 => ?_)
    · have hF := if_t c13 hF
      refine lv_iload_n hx hb (dk DX7_otherChoice 11 rfl) rfl (lv_at hl 1 rfl) ?_
      refine lv_iconst (v := (2 : Int32)) hx hb (dk DX7_otherChoice 12 rfl) (by decide) ?_
      refine lv_icmp_ne (tgt := 38) hx hb (dk DX7_otherChoice 13 rfl) (by decide) (fun c20 => ?_) (fun c20 => ?_)
      · have hF := if_f c20 hF
        refine lv_iconst (v := (0 : Int32)) hx hb (dk DX7_otherChoice 21 rfl) (by decide) ?_
        cases hF
        exact r_iret C hrt hR (dk DX7_otherChoice 22 rfl)
      · have hF := if_t c20 hF
        refine lv_iload_n hx hb (dk DX7_otherChoice 14 rfl) rfl (lv_at hl 3 rfl) ?_
        refine lv_aload_n hx hb (dk DX7_otherChoice 15 rfl) rfl (lv_at hl 0 rfl) ?_
        refine gX7_14 C hR ob2 rf2_0 (dk DX7_otherChoice 16 rfl) ?_
        refine gX7_81 C hR ob3 (dk DX7_otherChoice 17 rfl) ?_
        refine lv_icmp_lt (tgt := 38) hx hb (dk DX7_otherChoice 18 rfl) (by decide) (fun c31 => ?_) (fun c31 => ?_)
        · have hF := if_t c31 hF
          refine lv_iconst (v := (0 : Int32)) hx hb (dk DX7_otherChoice 21 rfl) (by decide) ?_
          cases hF
          exact r_iret C hrt hR (dk DX7_otherChoice 22 rfl)
        · have hF := if_f c31 hF
          refine lv_iconst (v := (2 : Int32)) hx hb (dk DX7_otherChoice 19 rfl) (by decide) ?_
          refine lv_goto (tgt := 39) hx hb (dk DX7_otherChoice 20 rfl) (by decide) ?_
          cases hF
          exact r_iret C hrt hR (dk DX7_otherChoice 22 rfl)
    · have hF := if_f c13 hF
      refine lv_iconst (v := (1 : Int32)) hx hb (dk DX7_otherChoice 9 rfl) (by decide) ?_
      cases hF
      exact r_iret C hrt hR (dk DX7_otherChoice 10 rfl)
  · have hF := if_t c5 hF
    refine lv_iconst (v := (3 : Int32)) hx hb (dk DX7_otherChoice 4 rfl) (by decide) ?_
    cases hF
    exact r_iret C hrt hR (dk DX7_otherChoice 5 rfl)
set_option maxHeartbeats 4000000 in
set_option maxRecDepth 100000 in
theorem C_Od_waysOtherwise (l : Launch) (hl0 : l.stackTraces = false) (G : GG) (D : Nat) (rc : Int32 → Int32 → Int32 → Int32 → Mem → Option (Int64 × Mem)) (hrc : ∀ (b0 : Int32) (b1 : Int32) (b2 : Int32) (b3 : Int32) (m0 : Mem) (v : Int64) (m' : Mem), rc b0 b1 b2 b3 m0 = some (v, m') → Ct l G mr0 N0 yX7_waysAt cX7_waysAt 8 (some .long) D [.ref (G.2.1 + 2), .int b0, .int b1, .int b2, .int b3] m0 (some (.long v)) m') (hD : 4 ≤ D) (a1 : Int32) (a2 : Int32) (a3 : Int32) (a4 : Int32) (m0 : Mem) (v : Int64) (m' : Mem) (hF : F_Od_waysOtherwise rc a1 a2 a3 a4 m0 = some (v, m')) : Ct l G mr0 N0 yX7_waysOtherwise cX7_waysOtherwise 5 (some .long) (D + 5) [.ref (G.2.1 + 2), .int a1, .int a2, .int a3, .int a4] m0 (some (.long v)) m' := by
  refine Ct_of hl0 (by decide) (Nat.le_of_ble_eq_true rfl) ?_
  intro p e s mid args below meth c ls C hrt hl hR
  have hx := C.1.1
  have hb := C.1.2.1
  have hl : lv_has ls 5 [(0, .ref (G.2.1 + 2)), (1, .int a1), (2, .int a2), (3, .int a3), (4, .int a4)] := hl
  unfold F_Od_waysOtherwise at hF
  refine lv_aload_n hx hb (dk DX7_waysOtherwise 0 rfl) rfl (lv_at hl 0 rfl) ?_
  refine lv_iload_n hx hb (dk DX7_waysOtherwise 1 rfl) rfl (lv_at hl 2 rfl) ?_
  refine lv_iload_n hx hb (dk DX7_waysOtherwise 2 rfl) rfl (lv_at hl 3 rfl) ?_
  refine lv_iload hx hb (dk DX7_waysOtherwise 3 rfl) (lv_at hl 4 rfl) ?_
  obtain ⟨xq3, mq1, hzq2, hF⟩ := bnd_ex hF
  refine r_callVi (As := [.int a2, .int a3, .int a4]) (rest := []) C hR (C_Od_otherChoice l hl0 G a2 a3 a4 m0 _ _ hzq2) (by omega) (by decide) ob2 rfl wX7_84 rfl rfl (Nat.le_of_ble_eq_true rfl) hl.1 ⟨Nat.zero_le _, Nat.zero_le _⟩ (dk DX7_waysOtherwise 4 rfl) (fun H locs hR => ?_)
  by_cases d1 : xq3 = (1 : Int32)
  · have hF := if_t d1 hF
    refine lv_lookup (tgt := 36) hx hb (dk DX7_waysOtherwise 5 rfl) (by decide) (by first | (rw [d1]; done) | (rw [d1]; rfl)) (by decide) ?_
    refine lv_aload_n hx hb (dk DX7_waysOtherwise 6 rfl) rfl (lv_at hl 0 rfl) ?_
    refine lv_iload_n hx hb (dk DX7_waysOtherwise 7 rfl) rfl (lv_at hl 1 rfl) ?_
    refine lv_iload_n hx hb (dk DX7_waysOtherwise 8 rfl) rfl (lv_at hl 2 rfl) ?_
    refine lv_iload hx hb (dk DX7_waysOtherwise 9 rfl) (lv_at hl 4 rfl) ?_
    obtain ⟨yq6, mq4, hzq5, hF⟩ := bnd_ex hF
    refine r_callVl (As := [.int a1, .int a2, .int a4]) (rest := []) C hR (C_Od_waysOfNext l hl0 G D rc hrc (by omega) a1 a2 a4 mq1 _ _ hzq5) (by omega) (by decide) ob2 rfl wX7_123 rfl rfl (Nat.le_of_ble_eq_true rfl) hl.1 ⟨Nat.zero_le _, Nat.zero_le _⟩ (dk DX7_waysOtherwise 10 rfl) (fun H locs hR => ?_)
    cases hF
    exact r_lret C hrt hR (dk DX7_waysOtherwise 11 rfl)
  · have hF := if_f d1 hF
    by_cases d2 : xq3 = (2 : Int32)
    · have hF := if_t d2 hF
      refine lv_lookup (tgt := 45) hx hb (dk DX7_waysOtherwise 5 rfl) (by decide) (by first | (rw [d2]; done) | (rw [d2]; rfl)) (by decide) ?_
      refine lv_aload_n hx hb (dk DX7_waysOtherwise 12 rfl) rfl (lv_at hl 0 rfl) ?_
      refine lv_iload_n hx hb (dk DX7_waysOtherwise 13 rfl) rfl (lv_at hl 1 rfl) ?_
      refine lv_iload_n hx hb (dk DX7_waysOtherwise 14 rfl) rfl (lv_at hl 2 rfl) ?_
      refine lv_iconst (v := (2 : Int32)) hx hb (dk DX7_waysOtherwise 15 rfl) (by decide) ?_
      refine lv_iadd hx hb (dk DX7_waysOtherwise 16 rfl) ?_
      refine lv_iconst (v := (0 : Int32)) hx hb (dk DX7_waysOtherwise 17 rfl) (by decide) ?_
      refine lv_iload hx hb (dk DX7_waysOtherwise 18 rfl) (lv_at hl 4 rfl) ?_
      refine lv_iconst (v := (0 : Int32)) hx hb (dk DX7_waysOtherwise 19 rfl) (by decide) ?_
      obtain ⟨yq9, mq7, hzq8, hF⟩ := bnd_ex hF
      refine r_callVl (As := [.int a1, .int (a2 + (2 : Int32)), .int (0 : Int32), .int a4, .int (b2i false)]) (rest := []) C hR (C_Od_waysOfSession l hl0 G D rc hrc (by omega) a1 (a2 + (2 : Int32)) (0 : Int32) a4 false mq1 _ _ hzq8) (by omega) (by decide) ob2 rfl wX7_119 rfl rfl (Nat.le_of_ble_eq_true rfl) hl.1 ⟨Nat.zero_le _, Nat.zero_le _⟩ (dk DX7_waysOtherwise 20 rfl) (fun H locs hR => ?_)
      cases hF
      exact r_lret C hrt hR (dk DX7_waysOtherwise 21 rfl)
    · have hF := if_f d2 hF
      have n1 := i32_ne d1 (z := 1) rfl
      have n2 := i32_ne d2 (z := 2) rfl
      refine lv_lookup (tgt := 58) hx hb (dk DX7_waysOtherwise 5 rfl) (by decide) (lk_out (by simp only [List.all_cons, List.all_nil, Bool.and_true, Bool.and_eq_true, decide_eq_true_eq]; omega)) (by decide) ?_
      refine lv_aload_n hx hb (dk DX7_waysOtherwise 22 rfl) rfl (lv_at hl 0 rfl) ?_
      refine lv_iload_n hx hb (dk DX7_waysOtherwise 23 rfl) rfl (lv_at hl 1 rfl) ?_
      refine lv_iload_n hx hb (dk DX7_waysOtherwise 24 rfl) rfl (lv_at hl 2 rfl) ?_
      refine lv_iload_n hx hb (dk DX7_waysOtherwise 25 rfl) rfl (lv_at hl 3 rfl) ?_
      refine lv_bipush (v := (10 : Int32)) hx hb (dk DX7_waysOtherwise 26 rfl) (by decide) ?_
      obtain ⟨k72_11, ek72_11, hF⟩ := lt_ex hF
      have J72 : ∀ (xq11 : Int32) (mq10 : Mem) (H : Heap) (locs : List Loc) (ls : Array Slot), lv_has ls 5 [(4, .int a4)] → Rp G mr0 N0 mq10 s H locs → k72_11 xq11 mq10 = some (v, m') → W p l e (rmD (D + 5)) s mid args below meth c H locs 0 0 (MQ below (QR G mr0 N0 (some (.long v)) m') args s 0 0 (fun q => G.2.1 ≤ q)) (F0 mid 72 ls [.int xq11, .int a2, .int a1, .ref (G.2.1 + 2)]) := by
        intro xq11 mq10 H locs ls hl hR hF
        rw [ek72_11] at hF
        refine lv_iload hx hb (dk DX7_waysOtherwise 31 rfl) (lv_at hl 0 rfl) ?_
        refine lv_iconst (v := (1 : Int32)) hx hb (dk DX7_waysOtherwise 32 rfl) (by decide) ?_
        obtain ⟨yq14, mq12, hzq13, hF⟩ := bnd_ex hF
        refine r_callVl (As := [.int a1, .int a2, .int xq11, .int a4, .int (b2i true)]) (rest := []) C hR (C_Od_waysOfSession l hl0 G D rc hrc (by omega) a1 a2 xq11 a4 true mq10 _ _ hzq13) (by omega) (by decide) ob2 rfl wX7_119 rfl rfl (Nat.le_of_ble_eq_true rfl) hl.1 ⟨Nat.zero_le _, Nat.zero_le _⟩ (dk DX7_waysOtherwise 33 rfl) (fun H locs hR => ?_)
        cases hF
        exact r_lret C hrt hR (dk DX7_waysOtherwise 34 rfl)
      refine lv_icmp_ne (tgt := 71) hx hb (dk DX7_waysOtherwise 27 rfl) (by decide) (fun c64 => ?_) (fun c64 => ?_)
      · have hF := if_f c64 hF
        refine lv_iload_n hx hb (dk DX7_waysOtherwise 30 rfl) rfl (lv_at hl 3 rfl) ?_
        exact J72 a3 mq1 _ _ ls (lv_sub hl [4] rfl) hR hF
      · have hF := if_t c64 hF
        refine lv_iconst (v := (0 : Int32)) hx hb (dk DX7_waysOtherwise 28 rfl) (by decide) ?_
        refine lv_goto (tgt := 72) hx hb (dk DX7_waysOtherwise 29 rfl) (by decide) ?_
        exact J72 (0 : Int32) mq1 _ _ ls (lv_sub hl [4] rfl) hR hF
set_option maxHeartbeats 4000000 in
set_option maxRecDepth 100000 in
theorem C_Od_waysOf (l : Launch) (hl0 : l.stackTraces = false) (G : GG) (a0 : Int64) (a1 : Bool) (m0 : Mem) (v : Int64) (m' : Mem) (hF : F_Od_waysOf a0 a1 m0 = some (v, m')) : Ct l G mr0 N0 yX7_waysOf cX7_waysOf 3 (some .long) 1 [.long a0, .int (b2i a1)] m0 (some (.long v)) m' := by
  refine Ct_of hl0 (by decide) (Nat.le_of_ble_eq_true rfl) ?_
  intro p e s mid args below meth c ls C hrt hl hR
  have hx := C.1.1
  have hb := C.1.2.1
  have hl : lv_has ls 3 [(0, .long a0), (2, .int (b2i a1))] := hl
  unfold F_Od_waysOf at hF
  refine lv_iload_n hx hb (dk DX7_waysOf 0 rfl) rfl (lv_at hl 1 rfl) ?_
  refine z_ifeq (tgt := 12) hx hb (dk DX7_waysOf 1 rfl) (by decide) (fun c1 => ?_) (fun c1 => ?_)
  · have hF := if_f c1 hF
    refine lv_lload_n hx hb (dk DX7_waysOf 6 rfl) rfl (lv_at hl 0 rfl) ?_
    refine lv_bipush (v := (20 : Int32)) hx hb (dk DX7_waysOf 7 rfl) (by decide) ?_
    refine lv_lushr hx hb (dk DX7_waysOf 8 rfl) rfl ?_
    refine lv_topl (fun yq1 eyq1 => ?_)
    have hF := lt_at eyq1 hF
    refine lv_ldc2 (v := (1048575 : Int64)) hx hb C.1.2.2.2.1 (C.1.2.2.2.2 _ (gd q752 rfl)) (dk DX7_waysOf 9 rfl) ?_
    refine lv_land hx hb (dk DX7_waysOf 10 rfl) ?_
    cases hF
    exact r_lret C hrt hR (dk DX7_waysOf 11 rfl)
  · have hF := if_t c1 hF
    refine lv_lload_n hx hb (dk DX7_waysOf 2 rfl) rfl (lv_at hl 0 rfl) ?_
    refine lv_ldc2 (v := (1048575 : Int64)) hx hb C.1.2.2.2.1 (C.1.2.2.2.2 _ (gd q752 rfl)) (dk DX7_waysOf 3 rfl) ?_
    refine lv_land hx hb (dk DX7_waysOf 4 rfl) ?_
    refine lv_goto (tgt := 20) hx hb (dk DX7_waysOf 5 rfl) (by decide) ?_
    cases hF
    exact r_lret C hrt hR (dk DX7_waysOf 11 rfl)
set_option maxHeartbeats 4000000 in
set_option maxRecDepth 100000 in
theorem C_Od_draws (l : Launch) (hl0 : l.stackTraces = false) (G : GG) (a1 : Int64) (a2 : Int32) (m0 : Mem) (v : Int64) (m' : Mem) (hF : F_Od_draws a1 a2 m0 = some (v, m')) : Ct l G mr0 N0 yX7_draws cX7_draws 4 (some .long) 2 [.ref (G.2.1 + 2), .long a1, .int a2] m0 (some (.long v)) m' := by
  refine Ct_of hl0 (by decide) (Nat.le_of_ble_eq_true rfl) ?_
  intro p e s mid args below meth c ls C hrt hl hR
  have hx := C.1.1
  have hb := C.1.2.1
  have hl : lv_has ls 4 [(0, .ref (G.2.1 + 2)), (1, .long a1), (3, .int a2)] := hl
  unfold F_Od_draws at hF
  refine lv_aload_n hx hb (dk DX7_draws 0 rfl) rfl (lv_at hl 0 rfl) ?_
  refine lv_iload_n hx hb (dk DX7_draws 1 rfl) rfl (lv_at hl 2 rfl) ?_
  obtain ⟨yq3, mq1, hzq2, hF⟩ := bnd_ex hF
  refine r_callVl (As := [.int a2]) (rest := []) C hR (C_Od_all l hl0 G a2 m0 _ _ hzq2) (by decide) (by decide) ob2 rfl wX7_63 rfl rfl (Nat.le_of_ble_eq_true rfl) hl.1 ⟨Nat.zero_le _, Nat.zero_le _⟩ (dk DX7_draws 2 rfl) (fun H locs hR => ?_)
  refine lv_lload_n hx hb (dk DX7_draws 3 rfl) rfl (lv_at hl 1 rfl) ?_
  refine lv_iconst (v := (1 : Int32)) hx hb (dk DX7_draws 4 rfl) (by decide) ?_
  obtain ⟨yq6, mq4, hzq5, hF⟩ := bnd_ex hF
  refine r_callSl (As := [.long a1, .int (b2i true)]) (rest := [.long yq3]) C hR (C_Od_waysOf l hl0 G a1 true mq1 _ _ hzq5) (by decide) (by decide) wX7_67 rfl rfl (Nat.le_of_ble_eq_true rfl) hl.1 ⟨Nat.zero_le _, Nat.zero_le _⟩ (dk DX7_draws 5 rfl) (fun H locs hR => ?_)
  refine lv_lsub hx hb (dk DX7_draws 6 rfl) ?_
  refine lv_lload_n hx hb (dk DX7_draws 7 rfl) rfl (lv_at hl 1 rfl) ?_
  refine lv_iconst (v := (0 : Int32)) hx hb (dk DX7_draws 8 rfl) (by decide) ?_
  obtain ⟨yq9, mq7, hzq8, hF⟩ := bnd_ex hF
  refine r_callSl (As := [.long a1, .int (b2i false)]) (rest := [.long (yq3 - yq6)]) C hR (C_Od_waysOf l hl0 G a1 false mq4 _ _ hzq8) (by decide) (by decide) wX7_67 rfl rfl (Nat.le_of_ble_eq_true rfl) hl.1 ⟨Nat.zero_le _, Nat.zero_le _⟩ (dk DX7_draws 9 rfl) (fun H locs hR => ?_)
  refine lv_lsub hx hb (dk DX7_draws 10 rfl) ?_
  cases hF
  exact r_lret C hrt hR (dk DX7_draws 11 rfl)
set_option maxHeartbeats 4000000 in
set_option maxRecDepth 100000 in
theorem C_Od_valueOf (l : Launch) (hl0 : l.stackTraces = false) (G : GG) (a1 : Int64) (a2 : Int32) (a3 : Bool) (a4 : Int32) (m0 : Mem) (v : Int64) (m' : Mem) (hF : F_Od_valueOf a1 a2 a3 a4 m0 = some (v, m')) : Ct l G mr0 N0 yX7_valueOf cX7_valueOf 6 (some .long) 3 [.ref (G.2.1 + 2), .long a1, .int a2, .int (b2i a3), .int a4] m0 (some (.long v)) m' := by
  refine Ct_of hl0 (by decide) (Nat.le_of_ble_eq_true rfl) ?_
  intro p e s mid args below meth c ls C hrt hl hR
  have hx := C.1.1
  have hb := C.1.2.1
  have hl : lv_has ls 6 [(0, .ref (G.2.1 + 2)), (1, .long a1), (3, .int a2), (4, .int (b2i a3)), (5, .int a4)] := hl
  unfold F_Od_valueOf at hF
  refine lv_ldc2 (v := (100 : Int64)) hx hb C.1.2.2.2.1 (C.1.2.2.2.2 _ (gd q748 rfl)) (dk DX7_valueOf 0 rfl) ?_
  refine lv_lload_n hx hb (dk DX7_valueOf 1 rfl) rfl (lv_at hl 1 rfl) ?_
  refine lv_iload hx hb (dk DX7_valueOf 2 rfl) (lv_at hl 3 rfl) ?_
  obtain ⟨yq3, mq1, hzq2, hF⟩ := bnd_ex hF
  refine r_callSl (As := [.long a1, .int (b2i a3)]) (rest := [.long (100 : Int64)]) C hR (C_Od_waysOf l hl0 G a1 a3 m0 _ _ hzq2) (by decide) (by decide) wX7_67 rfl rfl (Nat.le_of_ble_eq_true rfl) hl.1 ⟨Nat.zero_le _, Nat.zero_le _⟩ (dk DX7_valueOf 3 rfl) (fun H locs hR => ?_)
  refine lv_lmul hx hb (dk DX7_valueOf 4 rfl) ?_
  refine lv_iload hx hb (dk DX7_valueOf 5 rfl) (lv_at hl 4 rfl) ?_
  refine lv_i2l hx hb (dk DX7_valueOf 6 rfl) rfl ?_
  refine lv_aload_n hx hb (dk DX7_valueOf 7 rfl) rfl (lv_at hl 0 rfl) ?_
  refine lv_lload_n hx hb (dk DX7_valueOf 8 rfl) rfl (lv_at hl 1 rfl) ?_
  refine lv_iload_n hx hb (dk DX7_valueOf 9 rfl) rfl (lv_at hl 2 rfl) ?_
  obtain ⟨yq6, mq4, hzq5, hF⟩ := bnd_ex hF
  refine r_callVl (As := [.long a1, .int a2]) (rest := [.long a4.toInt64, .long ((100 : Int64) * yq3)]) C hR (C_Od_draws l hl0 G a1 a2 mq1 _ _ hzq5) (by decide) (by decide) ob2 rfl wX7_71 rfl rfl (Nat.le_of_ble_eq_true rfl) hl.1 ⟨Nat.zero_le _, Nat.zero_le _⟩ (dk DX7_valueOf 10 rfl) (fun H locs hR => ?_)
  refine lv_lmul hx hb (dk DX7_valueOf 11 rfl) ?_
  refine lv_ladd hx hb (dk DX7_valueOf 12 rfl) ?_
  cases hF
  exact r_lret C hrt hR (dk DX7_valueOf 13 rfl)
set_option maxHeartbeats 4000000 in
set_option maxRecDepth 100000 in
theorem C_Od_waysChosen (l : Launch) (hl0 : l.stackTraces = false) (G : GG) (D : Nat) (rc : Int32 → Int32 → Int32 → Int32 → Mem → Option (Int64 × Mem)) (hrc : ∀ (b0 : Int32) (b1 : Int32) (b2 : Int32) (b3 : Int32) (m0 : Mem) (v : Int64) (m' : Mem), rc b0 b1 b2 b3 m0 = some (v, m') → Ct l G mr0 N0 yX7_waysAt cX7_waysAt 8 (some .long) D [.ref (G.2.1 + 2), .int b0, .int b1, .int b2, .int b3] m0 (some (.long v)) m') (hD : 4 ≤ D) (a1 : Int32) (a2 : Int32) (a3 : Int32) (a4 : Int32) (m0 : Mem) (v : Int64) (m' : Mem) (hF : F_Od_waysChosen rc a1 a2 a3 a4 m0 = some (v, m')) : Ct l G mr0 N0 yX7_waysChosen cX7_waysChosen 12 (some .long) (D + 6) [.ref (G.2.1 + 2), .int a1, .int a2, .int a3, .int a4] m0 (some (.long v)) m' := by
  refine Ct_of hl0 (by decide) (Nat.le_of_ble_eq_true rfl) ?_
  intro p e s mid args below meth c ls C hrt hl hR
  have hx := C.1.1
  have hb := C.1.2.1
  have hl : lv_has ls 12 [(0, .ref (G.2.1 + 2)), (1, .int a1), (2, .int a2), (3, .int a3), (4, .int a4)] := hl
  unfold F_Od_waysChosen at hF
  refine lv_aload_n hx hb (dk DX7_waysChosen 0 rfl) rfl (lv_at hl 0 rfl) ?_
  refine lv_iload_n hx hb (dk DX7_waysChosen 1 rfl) rfl (lv_at hl 1 rfl) ?_
  refine lv_iload_n hx hb (dk DX7_waysChosen 2 rfl) rfl (lv_at hl 2 rfl) ?_
  refine lv_iload_n hx hb (dk DX7_waysChosen 3 rfl) rfl (lv_at hl 3 rfl) ?_
  refine lv_iload hx hb (dk DX7_waysChosen 4 rfl) (lv_at hl 4 rfl) ?_
  obtain ⟨yq3, mq1, hzq2, hF⟩ := bnd_ex hF
  refine r_callVl (As := [.int a1, .int a2, .int a3, .int a4]) (rest := []) C hR (C_Od_waysGoingOn l hl0 G D rc hrc (by omega) a1 a2 a3 a4 m0 _ _ hzq2) (by omega) (by decide) ob2 rfl wX7_92 rfl rfl (Nat.le_of_ble_eq_true rfl) hl.1 ⟨Nat.zero_le _, Nat.zero_le _⟩ (dk DX7_waysChosen 5 rfl) (fun H locs hR => ?_)
  refine lv_lstore (lv' := [(5, .long yq3), (0, .ref (G.2.1 + 2)), (1, .int a1), (2, .int a2), (3, .int a3), (4, .int a4)]) hx hb (dk DX7_waysChosen 6 rfl) hl (by decide) rfl (fun ls hl => ?_)
  refine lv_aload_n hx hb (dk DX7_waysChosen 7 rfl) rfl (lv_at hl 1 rfl) ?_
  refine gX7_38 C hR ob2 (dk DX7_waysChosen 8 rfl) ?_
  refine z_ifne (tgt := 29) hx hb (dk DX7_waysChosen 9 rfl) (by decide) (fun c15 => ?_) (fun c15 => ?_)
  · have hF := if_t c15 hF
    refine lv_lload hx hb (dk DX7_waysChosen 16 rfl) (lv_at hl 0 rfl) ?_
    cases hF
    exact r_lret C hrt hR (dk DX7_waysChosen 17 rfl)
  · have hF := if_f c15 hF
    refine lv_aload_n hx hb (dk DX7_waysChosen 10 rfl) rfl (lv_at hl 1 rfl) ?_
    refine lv_iload_n hx hb (dk DX7_waysChosen 11 rfl) rfl (lv_at hl 3 rfl) ?_
    refine lv_iload_n hx hb (dk DX7_waysChosen 12 rfl) rfl (lv_at hl 4 rfl) ?_
    refine lv_iload hx hb (dk DX7_waysChosen 13 rfl) (lv_at hl 5 rfl) ?_
    obtain ⟨xq6, mq4, hzq5, hF⟩ := bnd_ex hF
    refine r_callVi (As := [.int a2, .int a3, .int a4]) (rest := []) C hR (C_Od_otherChoice l hl0 G a2 a3 a4 mq1 _ _ hzq5) (by omega) (by decide) ob2 rfl wX7_84 rfl rfl (Nat.le_of_ble_eq_true rfl) hl.1 ⟨Nat.zero_le _, Nat.zero_le _⟩ (dk DX7_waysChosen 14 rfl) (fun H locs hR => ?_)
    refine lv_if_ne (tgt := 32) hx hb (dk DX7_waysChosen 15 rfl) (by decide) (fun c26 => ?_) (fun c26 => ?_)
    · have hF := if_f c26 hF
      refine lv_aload_n hx hb (dk DX7_waysChosen 18 rfl) rfl (lv_at hl 1 rfl) ?_
      refine lv_iload_n hx hb (dk DX7_waysChosen 19 rfl) rfl (lv_at hl 2 rfl) ?_
      refine lv_iload_n hx hb (dk DX7_waysChosen 20 rfl) rfl (lv_at hl 3 rfl) ?_
      refine lv_iload_n hx hb (dk DX7_waysChosen 21 rfl) rfl (lv_at hl 4 rfl) ?_
      refine lv_iload hx hb (dk DX7_waysChosen 22 rfl) (lv_at hl 5 rfl) ?_
      obtain ⟨yq9, mq7, hzq8, hF⟩ := bnd_ex hF
      refine r_callVl (As := [.int a1, .int a2, .int a3, .int a4]) (rest := []) C hR (C_Od_waysOtherwise l hl0 G D rc hrc (by omega) a1 a2 a3 a4 mq4 _ _ hzq8) (by omega) (by decide) ob2 rfl wX7_99 rfl rfl (Nat.le_of_ble_eq_true rfl) hl.1 ⟨Nat.zero_le _, Nat.zero_le _⟩ (dk DX7_waysChosen 23 rfl) (fun H locs hR => ?_)
      refine lv_lstore (lv' := [(7, .long yq9), (5, .long yq3), (0, .ref (G.2.1 + 2)), (1, .int a1), (2, .int a2), (3, .int a3), (4, .int a4)]) hx hb (dk DX7_waysChosen 24 rfl) hl (by decide) rfl (fun ls hl => ?_)
      refine lv_iload_n hx hb (dk DX7_waysChosen 25 rfl) rfl (lv_at hl 4 rfl) ?_
      obtain ⟨zq12, mq10, hzq11, hF⟩ := bnd_ex hF
      refine r_callSi (As := [.int a2]) (rest := []) C hR (C_Od_firstBats l hl0 G a2 mq7 _ _ hzq11) (by omega) (by decide) wX7_88 rfl rfl (Nat.le_of_ble_eq_true rfl) hl.1 ⟨Nat.zero_le _, Nat.zero_le _⟩ (dk DX7_waysChosen 26 rfl) (fun H locs hR => ?_)
      refine lv_istore (lv' := [(9, .int (b2i zq12)), (7, .long yq9), (5, .long yq3), (0, .ref (G.2.1 + 2)), (1, .int a1), (2, .int a2), (3, .int a3), (4, .int a4)]) hx hb (dk DX7_waysChosen 27 rfl) hl (by decide) rfl (fun ls hl => ?_)
      refine lv_aload_n hx hb (dk DX7_waysChosen 28 rfl) rfl (lv_at hl 3 rfl) ?_
      refine lv_lload hx hb (dk DX7_waysChosen 29 rfl) (lv_at hl 1 rfl) ?_
      refine lv_iload_n hx hb (dk DX7_waysChosen 30 rfl) rfl (lv_at hl 4 rfl) ?_
      refine lv_iload hx hb (dk DX7_waysChosen 31 rfl) (lv_at hl 0 rfl) ?_
      refine lv_aload_n hx hb (dk DX7_waysChosen 32 rfl) rfl (lv_at hl 3 rfl) ?_
      refine gX7_35 C hR ob2 (dk DX7_waysChosen 33 rfl) ?_
      obtain ⟨yq15, mq13, hzq14, hF⟩ := bnd_ex hF
      refine r_callVl (As := [.long yq9, .int a1, .int (b2i zq12), .int (gI mq10 2 5)]) (rest := []) C hR (C_Od_valueOf l hl0 G yq9 a1 zq12 (gI mq10 2 5) mq10 _ _ hzq14) (by omega) (by decide) ob2 rfl wX7_95 rfl rfl (Nat.le_of_ble_eq_true rfl) hl.1 ⟨Nat.zero_le _, Nat.zero_le _⟩ (dk DX7_waysChosen 34 rfl) (fun H locs hR => ?_)
      refine lv_aload_n hx hb (dk DX7_waysChosen 35 rfl) rfl (lv_at hl 3 rfl) ?_
      refine lv_lload hx hb (dk DX7_waysChosen 36 rfl) (lv_at hl 2 rfl) ?_
      refine lv_iload_n hx hb (dk DX7_waysChosen 37 rfl) rfl (lv_at hl 4 rfl) ?_
      refine lv_iload hx hb (dk DX7_waysChosen 38 rfl) (lv_at hl 0 rfl) ?_
      refine lv_aload_n hx hb (dk DX7_waysChosen 39 rfl) rfl (lv_at hl 3 rfl) ?_
      refine gX7_35 C hR ob2 (dk DX7_waysChosen 40 rfl) ?_
      obtain ⟨yq18, mq16, hzq17, hF⟩ := bnd_ex hF
      refine r_callVl (As := [.long yq3, .int a1, .int (b2i zq12), .int (gI mq13 2 5)]) (rest := [.long yq15]) C hR (C_Od_valueOf l hl0 G yq3 a1 zq12 (gI mq13 2 5) mq13 _ _ hzq17) (by omega) (by decide) ob2 rfl wX7_95 rfl rfl (Nat.le_of_ble_eq_true rfl) hl.1 ⟨Nat.zero_le _, Nat.zero_le _⟩ (dk DX7_waysChosen 41 rfl) (fun H locs hR => ?_)
      refine lv_lsub hx hb (dk DX7_waysChosen 42 rfl) ?_
      refine lv_topl (fun yq19 eyq19 => ?_)
      have hF := lt_at eyq19 hF
      refine lv_lstore (lv' := [(10, .long yq19), (9, .int (b2i zq12)), (7, .long yq9), (5, .long yq3), (0, .ref (G.2.1 + 2)), (1, .int a1), (2, .int a2), (3, .int a3), (4, .int a4)]) hx hb (dk DX7_waysChosen 43 rfl) hl (by decide) rfl (fun ls hl => ?_)
      refine lv_lload hx hb (dk DX7_waysChosen 44 rfl) (lv_at hl 0 rfl) ?_
      refine lv_lconst (v := (0 : Int64)) hx hb (dk DX7_waysChosen 45 rfl) (by decide) ?_
      refine l_ifle (tgt := 90) hx hb (dk DX7_waysChosen 46 rfl) (dk DX7_waysChosen 47 rfl) (by decide) (fun c81 => ?_) (fun c81 => ?_)
      · have hF := if_t c81 hF
        refine lv_lload hx hb (dk DX7_waysChosen 50 rfl) (lv_at hl 3 rfl) ?_
        cases hF
        exact r_lret C hrt hR (dk DX7_waysChosen 51 rfl)
      · have hF := if_f c81 hF
        refine lv_lload hx hb (dk DX7_waysChosen 48 rfl) (lv_at hl 2 rfl) ?_
        refine lv_goto (tgt := 92) hx hb (dk DX7_waysChosen 49 rfl) (by decide) ?_
        cases hF
        exact r_lret C hrt hR (dk DX7_waysChosen 51 rfl)
    · have hF := if_t c26 hF
      refine lv_lload hx hb (dk DX7_waysChosen 16 rfl) (lv_at hl 0 rfl) ?_
      cases hF
      exact r_lret C hrt hR (dk DX7_waysChosen 17 rfl)
set_option maxHeartbeats 4000000 in
set_option maxRecDepth 100000 in
theorem C_Od_waysAt_b (l : Launch) (hl0 : l.stackTraces = false) (G : GG) (D : Nat) (rc : Int32 → Int32 → Int32 → Int32 → Mem → Option (Int64 × Mem)) (hrc : ∀ (b0 : Int32) (b1 : Int32) (b2 : Int32) (b3 : Int32) (m0 : Mem) (v : Int64) (m' : Mem), rc b0 b1 b2 b3 m0 = some (v, m') → Ct l G mr0 N0 yX7_waysAt cX7_waysAt 8 (some .long) D [.ref (G.2.1 + 2), .int b0, .int b1, .int b2, .int b3] m0 (some (.long v)) m') (hD : 4 ≤ D) (a1 : Int32) (a2 : Int32) (a3 : Int32) (a4 : Int32) (m0 : Mem) (v : Int64) (m' : Mem) (hF : F_Od_waysAt_b rc a1 a2 a3 a4 m0 = some (v, m')) : Ct l G mr0 N0 yX7_waysAt cX7_waysAt 8 (some .long) (D + 7) [.ref (G.2.1 + 2), .int a1, .int a2, .int a3, .int a4] m0 (some (.long v)) m' := by
  refine Ct_of hl0 (by decide) (Nat.le_of_ble_eq_true rfl) ?_
  intro p e s mid args below meth c ls C hrt hl hR
  have hx := C.1.1
  have hb := C.1.2.1
  have hl : lv_has ls 8 [(0, .ref (G.2.1 + 2)), (1, .int a1), (2, .int a2), (3, .int a3), (4, .int a4)] := hl
  unfold F_Od_waysAt_b at hF
  refine lv_iload_n hx hb (dk DX7_waysAt 0 rfl) rfl (lv_at hl 1 rfl) ?_
  refine lv_if_lt (tgt := 15) hx hb (dk DX7_waysAt 1 rfl) (by decide) (fun c1 => ?_) (fun c1 => ?_)
  · have hF := if_t c1 hF
    refine lv_lconst (v := (0 : Int64)) hx hb (dk DX7_waysAt 7 rfl) (by decide) ?_
    cases hF
    exact r_lret C hrt hR (dk DX7_waysAt 8 rfl)
  · have hF := if_f c1 hF
    refine lv_iload_n hx hb (dk DX7_waysAt 2 rfl) rfl (lv_at hl 1 rfl) ?_
    refine lv_aload_n hx hb (dk DX7_waysAt 3 rfl) rfl (lv_at hl 0 rfl) ?_
    refine gX7_14 C hR ob2 rf2_0 (dk DX7_waysAt 4 rfl) ?_
    refine gX7_60 C hR ob3 (dk DX7_waysAt 5 rfl) ?_
    refine lv_icmp_lt (tgt := 17) hx hb (dk DX7_waysAt 6 rfl) (by decide) (fun c12 => ?_) (fun c12 => ?_)
    · have hF := if_t c12 hF
      refine lv_aload_n hx hb (dk DX7_waysAt 9 rfl) rfl (lv_at hl 0 rfl) ?_
      refine lv_iload_n hx hb (dk DX7_waysAt 10 rfl) rfl (lv_at hl 1 rfl) ?_
      refine lv_iload_n hx hb (dk DX7_waysAt 11 rfl) rfl (lv_at hl 2 rfl) ?_
      refine lv_iload_n hx hb (dk DX7_waysAt 12 rfl) rfl (lv_at hl 3 rfl) ?_
      refine lv_iload hx hb (dk DX7_waysAt 13 rfl) (lv_at hl 4 rfl) ?_
      obtain ⟨xq3, mq1, hzq2, hF⟩ := bnd_ex hF
      refine r_callVi (As := [.int a1, .int a2, .int a3, .int a4]) (rest := []) C hR (C_Od_placeOf l hl0 G a1 a2 a3 a4 m0 _ _ hzq2) (by omega) (by decide) ob2 rfl wX7_110 rfl rfl (Nat.le_of_ble_eq_true rfl) hl.1 ⟨Nat.zero_le _, Nat.zero_le _⟩ (dk DX7_waysAt 14 rfl) (fun H locs hR => ?_)
      refine lv_istore (lv' := [(5, .int xq3), (0, .ref (G.2.1 + 2)), (1, .int a1), (2, .int a2), (3, .int a3), (4, .int a4)]) hx hb (dk DX7_waysAt 15 rfl) hl (by decide) rfl (fun ls hl => ?_)
      refine lv_iload hx hb (dk DX7_waysAt 16 rfl) (lv_at hl 0 rfl) ?_
      refine lv_iconst (v := (-1 : Int32)) hx hb (dk DX7_waysAt 17 rfl) (by decide) ?_
      obtain ⟨k64_4, ek64_4, hF⟩ := lt_ex hF
      have J64 : ∀ (mq4 : Mem) (H : Heap) (locs : List Loc) (ls : Array Slot), lv_has ls 8 [(0, .ref (G.2.1 + 2)), (1, .int a1), (2, .int a2), (3, .int a3), (4, .int a4), (5, .int xq3)] → Rp G mr0 N0 mq4 s H locs → k64_4  mq4 = some (v, m') → W p l e (rmD (D + 7)) s mid args below meth c H locs 0 0 (MQ below (QR G mr0 N0 (some (.long v)) m') args s 0 0 (fun q => G.2.1 ≤ q)) (F0 mid 64 ls []) := by
        intro  mq4 H locs ls hl hR hF
        rw [ek64_4] at hF
        refine lv_aload_n hx hb (dk DX7_waysAt 36 rfl) rfl (lv_at hl 0 rfl) ?_
        refine lv_iload_n hx hb (dk DX7_waysAt 37 rfl) rfl (lv_at hl 1 rfl) ?_
        refine lv_iload_n hx hb (dk DX7_waysAt 38 rfl) rfl (lv_at hl 2 rfl) ?_
        refine lv_iload_n hx hb (dk DX7_waysAt 39 rfl) rfl (lv_at hl 3 rfl) ?_
        refine lv_iload hx hb (dk DX7_waysAt 40 rfl) (lv_at hl 4 rfl) ?_
        obtain ⟨yq7, mq5, hzq6, hF⟩ := bnd_ex hF
        refine r_callVl (As := [.int a1, .int a2, .int a3, .int a4]) (rest := []) C hR (C_Od_waysChosen l hl0 G D rc hrc (by omega) a1 a2 a3 a4 mq4 _ _ hzq6) (by omega) (by decide) ob2 rfl wX7_116 rfl rfl (Nat.le_of_ble_eq_true rfl) hl.1 ⟨Nat.zero_le _, Nat.zero_le _⟩ (dk DX7_waysAt 41 rfl) (fun H locs hR => ?_)
        refine lv_lstore (lv' := [(6, .long yq7), (0, .ref (G.2.1 + 2)), (1, .int a1), (2, .int a2), (3, .int a3), (4, .int a4), (5, .int xq3)]) hx hb (dk DX7_waysAt 42 rfl) hl (by decide) rfl (fun ls hl => ?_)
        refine lv_iload hx hb (dk DX7_waysAt 43 rfl) (lv_at hl 6 rfl) ?_
        refine lv_iconst (v := (-1 : Int32)) hx hb (dk DX7_waysAt 44 rfl) (by decide) ?_
        refine lv_icmp_eq (tgt := 98) hx hb (dk DX7_waysAt 45 rfl) (by decide) (fun c78 => ?_) (fun c78 => ?_)
        · have hF := if_t c78 hF
          refine lv_lload hx hb (dk DX7_waysAt 56 rfl) (lv_at hl 0 rfl) ?_
          cases hF
          exact r_lret C hrt hR (dk DX7_waysAt 57 rfl)
        · have hF := if_f c78 hF
          refine lv_aload_n hx hb (dk DX7_waysAt 46 rfl) rfl (lv_at hl 1 rfl) ?_
          refine gX7_19 C hR ob2 rf2_1 (dk DX7_waysAt 47 rfl) ?_
          refine lv_iload hx hb (dk DX7_waysAt 48 rfl) (lv_at hl 6 rfl) ?_
          refine lv_lload hx hb (dk DX7_waysAt 49 rfl) (lv_at hl 0 rfl) ?_
          refine lv_aload_n hx hb (dk DX7_waysAt 50 rfl) rfl (lv_at hl 1 rfl) ?_
          refine gX7_23 C hR ob2 (dk DX7_waysAt 51 rfl) ?_
          refine lv_bipush (v := (40 : Int32)) hx hb (dk DX7_waysAt 52 rfl) (by decide) ?_
          refine lv_lshl hx hb (dk DX7_waysAt 53 rfl) rfl ?_
          refine lv_lor hx hb (dk DX7_waysAt 54 rfl) ?_
          refine lv_topl (fun yq8 eyq8 => ?_)
          have hF := lt_at eyq8 hF
          obtain ⟨hq10, hF⟩ := ckB_ex hF
          refine r_last C hR ob15 hq10 (dk DX7_waysAt 55 rfl) (fun H locs hR => ?_)
          obtain ⟨mq9, emq9, hF⟩ := lt_ex hF
          have hR := Rp_at emq9 hR
          refine lv_lload hx hb (dk DX7_waysAt 56 rfl) (lv_at hl 0 rfl) ?_
          cases hF
          exact r_lret C hrt hR (dk DX7_waysAt 57 rfl)
      refine lv_icmp_eq (tgt := 64) hx hb (dk DX7_waysAt 18 rfl) (by decide) (fun c31 => ?_) (fun c31 => ?_)
      · have hF := if_t c31 hF
        exact J64 mq1 _ _ ls (lv_sub hl [1, 2, 3, 4, 5, 0] rfl) hR hF
      · have hF := if_f c31 hF
        refine lv_aload_n hx hb (dk DX7_waysAt 19 rfl) rfl (lv_at hl 1 rfl) ?_
        refine gX7_19 C hR ob2 rf2_1 (dk DX7_waysAt 20 rfl) ?_
        refine lv_iload hx hb (dk DX7_waysAt 21 rfl) (lv_at hl 0 rfl) ?_
        obtain ⟨hq11, hF⟩ := ckB_ex hF
        refine r_lald C hR ob15 hq11 (dk DX7_waysAt 22 rfl) ?_
        refine lv_topl (fun yq12 eyq12 => ?_)
        have hF := lt_at eyq12 hF
        refine lv_bipush (v := (40 : Int32)) hx hb (dk DX7_waysAt 23 rfl) (by decide) ?_
        refine lv_lushr hx hb (dk DX7_waysAt 24 rfl) rfl ?_
        refine lv_topl (fun yq13 eyq13 => ?_)
        have hF := lt_at eyq13 hF
        refine lv_aload_n hx hb (dk DX7_waysAt 25 rfl) rfl (lv_at hl 1 rfl) ?_
        refine gX7_23 C hR ob2 (dk DX7_waysAt 26 rfl) ?_
        refine l_ifne (tgt := 64) hx hb (dk DX7_waysAt 27 rfl) (dk DX7_waysAt 28 rfl) (by decide) (fun c48 => ?_) (fun c48 => ?_)
        · have hF := if_f c48 hF
          exact J64 mq1 _ _ ls (lv_sub hl [1, 2, 3, 4, 5, 0] rfl) hR hF
        · have hF := if_t c48 hF
          refine lv_aload_n hx hb (dk DX7_waysAt 29 rfl) rfl (lv_at hl 1 rfl) ?_
          refine gX7_19 C hR ob2 rf2_1 (dk DX7_waysAt 30 rfl) ?_
          refine lv_iload hx hb (dk DX7_waysAt 31 rfl) (lv_at hl 0 rfl) ?_
          obtain ⟨hq14, hF⟩ := ckB_ex hF
          refine r_lald C hR ob15 hq14 (dk DX7_waysAt 32 rfl) ?_
          refine lv_topl (fun yq15 eyq15 => ?_)
          have hF := lt_at eyq15 hF
          refine lv_ldc2 (v := (1099511627775 : Int64)) hx hb C.1.2.2.2.1 (C.1.2.2.2.2 _ (gd q629 rfl)) (dk DX7_waysAt 33 rfl) ?_
          refine lv_land hx hb (dk DX7_waysAt 34 rfl) ?_
          cases hF
          exact r_lret C hrt hR (dk DX7_waysAt 35 rfl)
    · have hF := if_f c12 hF
      refine lv_lconst (v := (0 : Int64)) hx hb (dk DX7_waysAt 7 rfl) (by decide) ?_
      cases hF
      exact r_lret C hrt hR (dk DX7_waysAt 8 rfl)
theorem C_Od_waysAt (l : Launch) (hl0 : l.stackTraces = false) (G : GG) : ∀ (k : Nat) (a1 : Int32) (a2 : Int32) (a3 : Int32) (a4 : Int32) (m0 : Mem) (v : Int64) (m' : Mem), F_Od_waysAt k a1 a2 a3 a4 m0 = some (v, m') → Ct l G mr0 N0 yX7_waysAt cX7_waysAt 8 (some .long) (5 + 7 * k) [.ref (G.2.1 + 2), .int a1, .int a2, .int a3, .int a4] m0 (some (.long v)) m'
  | 0, a1, a2, a3, a4, m0, v, m', h => by rw [F_Od_waysAt] at h; cases h
  | k + 1, a1, a2, a3, a4, m0, v, m', h => by
    rw [F_Od_waysAt] at h
    have := C_Od_waysAt_b l hl0 G (5 + 7 * k) (F_Od_waysAt k) (fun b0 b1 b2 b3 m1 v1 m2 h1 => C_Od_waysAt l hl0 G k b0 b1 b2 b3 m1 v1 m2 h1) (by omega) a1 a2 a3 a4 m0 v m' h
    rw [show 5 + 7 * (k + 1) = 5 + 7 * k + 7 by omega]
    exact this
set_option maxHeartbeats 4000000 in
set_option maxRecDepth 100000 in
theorem C_Od_waysBySlot (l : Launch) (hl0 : l.stackTraces = false) (G : GG) (a1 : Int32) (a2 : Int32) (a3 : Int32) (a4 : Int32) (a5 : Int32) (m0 : Mem) (v : Int64) (m' : Mem) (hF : F_Od_waysBySlot a1 a2 a3 a4 a5 m0 = some (v, m')) : Ct l G mr0 N0 yX7_waysBySlot cX7_waysBySlot 6 (some .long) 289 [.ref (G.2.1 + 2), .int a1, .int a2, .int a3, .int a4, .int a5] m0 (some (.long v)) m' := by
  refine Ct_of hl0 (by decide) (Nat.le_of_ble_eq_true rfl) ?_
  intro p e s mid args below meth c ls C hrt hl hR
  have hx := C.1.1
  have hb := C.1.2.1
  have hl : lv_has ls 6 [(0, .ref (G.2.1 + 2)), (1, .int a1), (2, .int a2), (3, .int a3), (4, .int a4), (5, .int a5)] := hl
  unfold F_Od_waysBySlot at hF
  refine lv_aload_n hx hb (dk DX7_waysBySlot 0 rfl) rfl (lv_at hl 0 rfl) ?_
  refine lv_iload_n hx hb (dk DX7_waysBySlot 1 rfl) rfl (lv_at hl 1 rfl) ?_
  refine lv_iload_n hx hb (dk DX7_waysBySlot 2 rfl) rfl (lv_at hl 2 rfl) ?_
  refine lv_iload_n hx hb (dk DX7_waysBySlot 3 rfl) rfl (lv_at hl 3 rfl) ?_
  refine lv_iload hx hb (dk DX7_waysBySlot 4 rfl) (lv_at hl 4 rfl) ?_
  refine lv_iload hx hb (dk DX7_waysBySlot 5 rfl) (lv_at hl 5 rfl) ?_
  refine lv_iconst (v := (0 : Int32)) hx hb (dk DX7_waysBySlot 6 rfl) (by decide) ?_
  obtain ⟨yq3, mq1, hzq2, hF⟩ := bnd_ex hF
  refine r_callVl (As := [.int a1, .int a2, .int a3, .int a4, .int a5, .int (b2i false)]) (rest := []) C hR (C_Od_waysOfSlot l hl0 G _ (F_Od_waysAt 40) (C_Od_waysAt l hl0 G 40) (by omega) a1 a2 a3 a4 a5 false m0 _ _ hzq2) (by decide) (by decide) ob2 rfl wX7_106 rfl rfl (Nat.le_of_ble_eq_true rfl) hl.1 ⟨Nat.zero_le _, Nat.zero_le _⟩ (dk DX7_waysBySlot 7 rfl) (fun H locs hR => ?_)
  cases hF
  exact r_lret C hrt hR (dk DX7_waysBySlot 8 rfl)
set_option maxHeartbeats 4000000 in
set_option maxRecDepth 100000 in
theorem C_T_waysAfter (l : Launch) (hl0 : l.stackTraces = false) (G : GG) (a1 : Int32) (m0 : Mem) (v : Int64) (m' : Mem) (hF : F_T_waysAfter a1 m0 = some (v, m')) : Ct l G mr0 N0 yX10_waysAfter cX10_waysAfter 2 (some .long) 290 [.ref (G.2.1 + 0), .int a1] m0 (some (.long v)) m' := by
  refine Ct_of hl0 (by decide) (Nat.le_of_ble_eq_true rfl) ?_
  intro p e s mid args below meth c ls C hrt hl hR
  have hx := C.1.1
  have hb := C.1.2.1
  have hl : lv_has ls 2 [(0, .ref (G.2.1 + 0)), (1, .int a1)] := hl
  unfold F_T_waysAfter at hF
  refine lv_aload_n hx hb (dk DX10_waysAfter 0 rfl) rfl (lv_at hl 0 rfl) ?_
  refine gX10_23 C hR ob0 rf0_3 (dk DX10_waysAfter 1 rfl) ?_
  refine lv_aload_n hx hb (dk DX10_waysAfter 2 rfl) rfl (lv_at hl 0 rfl) ?_
  refine gX10_37 C hR ob0 rf0_5 (dk DX10_waysAfter 3 rfl) ?_
  refine gX10_93 C hR ob16 (dk DX10_waysAfter 4 rfl) ?_
  refine lv_aload_n hx hb (dk DX10_waysAfter 5 rfl) rfl (lv_at hl 0 rfl) ?_
  refine gX10_31 C hR ob0 rf0_4 (dk DX10_waysAfter 6 rfl) ?_
  refine gX10_200 C hR ob3 (dk DX10_waysAfter 7 rfl) ?_
  refine lv_iconst (v := (0 : Int32)) hx hb (dk DX10_waysAfter 8 rfl) (by decide) ?_
  obtain ⟨uq3, mq1, hzq2, hF⟩ := bnd_ex hF
  refine r_callVv (As := [.int (gI m0 16 0), .int (gI m0 3 5), .int (b2i false)]) (rest := []) C hR (C_Od_ready l hl0 G (gI m0 16 0) (gI m0 3 5) false m0 _ _ hzq2) (by decide) (by decide) ob2 rfl wX10_327 rfl rfl (Nat.le_of_ble_eq_true rfl) hl.1 ⟨Nat.zero_le _, Nat.zero_le _⟩ (dk DX10_waysAfter 9 rfl) (fun H locs hR => ?_)
  refine lv_aload_n hx hb (dk DX10_waysAfter 10 rfl) rfl (lv_at hl 0 rfl) ?_
  refine gX10_23 C hR ob0 rf0_3 (dk DX10_waysAfter 11 rfl) ?_
  refine lv_aload_n hx hb (dk DX10_waysAfter 12 rfl) rfl (lv_at hl 0 rfl) ?_
  refine gX10_37 C hR ob0 rf0_5 (dk DX10_waysAfter 13 rfl) ?_
  refine gX10_203 C hR ob16 (dk DX10_waysAfter 14 rfl) ?_
  refine lv_aload_n hx hb (dk DX10_waysAfter 15 rfl) rfl (lv_at hl 0 rfl) ?_
  refine gX10_37 C hR ob0 rf0_5 (dk DX10_waysAfter 16 rfl) ?_
  obtain ⟨xq6, mq4, hzq5, hF⟩ := bnd_ex hF
  refine r_callVi (As := []) (rest := [.int (gI mq1 16 3), .ref (G.2.1 + 2)]) C hR (C_Ma_kind l hl0 G mq1 _ _ hzq5) (by decide) (by decide) ob16 rfl wX10_316 rfl rfl (Nat.le_of_ble_eq_true rfl) hl.1 ⟨Nat.zero_le _, Nat.zero_le _⟩ (dk DX10_waysAfter 17 rfl) (fun H locs hR => ?_)
  refine lv_aload_n hx hb (dk DX10_waysAfter 18 rfl) rfl (lv_at hl 0 rfl) ?_
  refine gX10_37 C hR ob0 rf0_5 (dk DX10_waysAfter 19 rfl) ?_
  refine gX10_210 C hR ob16 (dk DX10_waysAfter 20 rfl) ?_
  refine lv_aload_n hx hb (dk DX10_waysAfter 21 rfl) rfl (lv_at hl 0 rfl) ?_
  refine gX10_37 C hR ob0 rf0_5 (dk DX10_waysAfter 22 rfl) ?_
  refine lv_aload_n hx hb (dk DX10_waysAfter 23 rfl) rfl (lv_at hl 0 rfl) ?_
  refine gX10_37 C hR ob0 rf0_5 (dk DX10_waysAfter 24 rfl) ?_
  refine gX10_93 C hR ob16 (dk DX10_waysAfter 25 rfl) ?_
  obtain ⟨xq9, mq7, hzq8, hF⟩ := bnd_ex hF
  refine r_callVi (As := [.int (gI mq4 16 0)]) (rest := [.int (gI mq4 16 2), .int xq6, .int (gI mq1 16 3), .ref (G.2.1 + 2)]) C hR (C_Ma_leadOf l hl0 G (gI mq4 16 0) mq4 _ _ hzq8) (by decide) (by decide) ob16 rfl wX10_257 rfl rfl (Nat.le_of_ble_eq_true rfl) hl.1 ⟨Nat.zero_le _, Nat.zero_le _⟩ (dk DX10_waysAfter 26 rfl) (fun H locs hR => ?_)
  refine lv_iload_n hx hb (dk DX10_waysAfter 27 rfl) rfl (lv_at hl 1 rfl) ?_
  obtain ⟨yq12, mq10, hzq11, hF⟩ := bnd_ex hF
  refine r_callVl (As := [.int (gI mq1 16 3), .int xq6, .int (gI mq4 16 2), .int xq9, .int a1]) (rest := []) C hR (C_Od_waysBySlot l hl0 G (gI mq1 16 3) xq6 (gI mq4 16 2) xq9 a1 mq7 _ _ hzq11) (by decide) (by decide) ob2 rfl wX10_436 rfl rfl (Nat.le_of_ble_eq_true rfl) hl.1 ⟨Nat.zero_le _, Nat.zero_le _⟩ (dk DX10_waysAfter 28 rfl) (fun H locs hR => ?_)
  cases hF
  exact r_lret C hrt hR (dk DX10_waysAfter 29 rfl)
set_option maxHeartbeats 4000000 in
set_option maxRecDepth 100000 in
theorem C_Od_part (l : Launch) (hl0 : l.stackTraces = false) (G : GG) (a1 : Int64) (a2 : Int32) (a3 : Int32) (m0 : Mem) (v : Int64) (m' : Mem) (hF : F_Od_part a1 a2 a3 m0 = some (v, m')) : Ct l G mr0 N0 yX7_part cX7_part 5 (some .long) 3 [.ref (G.2.1 + 2), .long a1, .int a2, .int a3] m0 (some (.long v)) m' := by
  refine Ct_of hl0 (by decide) (Nat.le_of_ble_eq_true rfl) ?_
  intro p e s mid args below meth c ls C hrt hl hR
  have hx := C.1.1
  have hb := C.1.2.1
  have hl : lv_has ls 5 [(0, .ref (G.2.1 + 2)), (1, .long a1), (3, .int a2), (4, .int a3)] := hl
  unfold F_Od_part at hF
  refine lv_iload hx hb (dk DX7_part 0 rfl) (lv_at hl 3 rfl) ?_
  refine lv_iconst (v := (3 : Int32)) hx hb (dk DX7_part 1 rfl) (by decide) ?_
  refine lv_icmp_ne (tgt := 12) hx hb (dk DX7_part 2 rfl) (by decide) (fun c3 => ?_) (fun c3 => ?_)
  · have hF := if_f c3 hF
    refine lv_iload hx hb (dk DX7_part 7 rfl) (lv_at hl 3 rfl) ?_
    refine lv_iconst (v := (2 : Int32)) hx hb (dk DX7_part 8 rfl) (by decide) ?_
    refine lv_icmp_ne (tgt := 27) hx hb (dk DX7_part 9 rfl) (by decide) (fun c15 => ?_) (fun c15 => ?_)
    · have hF := if_f c15 hF
      refine lv_lload_n hx hb (dk DX7_part 15 rfl) rfl (lv_at hl 1 rfl) ?_
      refine lv_iload hx hb (dk DX7_part 16 rfl) (lv_at hl 3 rfl) ?_
      refine lv_aload_n hx hb (dk DX7_part 17 rfl) rfl (lv_at hl 0 rfl) ?_
      refine gX7_31 C hR ob2 (dk DX7_part 18 rfl) ?_
      obtain ⟨k42_2, ek42_2, hF⟩ := lt_ex hF
      have J42 : ∀ (zq2 : Bool) (mq1 : Mem) (H : Heap) (locs : List Loc) (ls : Array Slot), lv_has ls 5 [] → Rp G mr0 N0 mq1 s H locs → k42_2 zq2 mq1 = some (v, m') → W p l e (rmD 3) s mid args below meth c H locs 0 0 (MQ below (QR G mr0 N0 (some (.long v)) m') args s 0 0 (fun q => G.2.1 ≤ q)) (F0 mid 42 ls [.int (b2i zq2), .long a1]) := by
        intro zq2 mq1 H locs ls hl hR hF
        rw [ek42_2] at hF
        obtain ⟨yq5, mq3, hzq4, hF⟩ := bnd_ex hF
        refine r_callSl (As := [.long a1, .int (b2i zq2)]) (rest := []) C hR (C_Od_waysOf l hl0 G a1 zq2 mq1 _ _ hzq4) (by decide) (by decide) wX7_67 rfl rfl (Nat.le_of_ble_eq_true rfl) hl.1 ⟨Nat.zero_le _, Nat.zero_le _⟩ (dk DX7_part 23 rfl) (fun H locs hR => ?_)
        cases hF
        exact r_lret C hrt hR (dk DX7_part 24 rfl)
      refine lv_icmp_ne (tgt := 41) hx hb (dk DX7_part 19 rfl) (by decide) (fun c34 => ?_) (fun c34 => ?_)
      · have hF := if_f c34 hF
        refine lv_iconst (v := (0 : Int32)) hx hb (dk DX7_part 22 rfl) (by decide) ?_
        exact J42 false m0 _ _ ls (lv_sub hl [] rfl) hR hF
      · have hF := if_t c34 hF
        refine lv_iconst (v := (1 : Int32)) hx hb (dk DX7_part 20 rfl) (by decide) ?_
        refine lv_goto (tgt := 42) hx hb (dk DX7_part 21 rfl) (by decide) ?_
        exact J42 true m0 _ _ ls (lv_sub hl [] rfl) hR hF
    · have hF := if_t c15 hF
      refine lv_aload_n hx hb (dk DX7_part 10 rfl) rfl (lv_at hl 0 rfl) ?_
      refine lv_lload_n hx hb (dk DX7_part 11 rfl) rfl (lv_at hl 1 rfl) ?_
      refine lv_iload_n hx hb (dk DX7_part 12 rfl) rfl (lv_at hl 2 rfl) ?_
      obtain ⟨yq8, mq6, hzq7, hF⟩ := bnd_ex hF
      refine r_callVl (As := [.long a1, .int a2]) (rest := []) C hR (C_Od_draws l hl0 G a1 a2 m0 _ _ hzq7) (by decide) (by decide) ob2 rfl wX7_71 rfl rfl (Nat.le_of_ble_eq_true rfl) hl.1 ⟨Nat.zero_le _, Nat.zero_le _⟩ (dk DX7_part 13 rfl) (fun H locs hR => ?_)
      refine lv_goto (tgt := 45) hx hb (dk DX7_part 14 rfl) (by decide) ?_
      cases hF
      exact r_lret C hrt hR (dk DX7_part 24 rfl)
  · have hF := if_t c3 hF
    refine lv_aload_n hx hb (dk DX7_part 3 rfl) rfl (lv_at hl 0 rfl) ?_
    refine lv_iload_n hx hb (dk DX7_part 4 rfl) rfl (lv_at hl 2 rfl) ?_
    obtain ⟨yq11, mq9, hzq10, hF⟩ := bnd_ex hF
    refine r_callVl (As := [.int a2]) (rest := []) C hR (C_Od_all l hl0 G a2 m0 _ _ hzq10) (by decide) (by decide) ob2 rfl wX7_63 rfl rfl (Nat.le_of_ble_eq_true rfl) hl.1 ⟨Nat.zero_le _, Nat.zero_le _⟩ (dk DX7_part 5 rfl) (fun H locs hR => ?_)
    cases hF
    exact r_lret C hrt hR (dk DX7_part 6 rfl)
set_option maxHeartbeats 4000000 in
set_option maxRecDepth 100000 in
theorem C_T_after (l : Launch) (hl0 : l.stackTraces = false) (G : GG) (a1 : Int32) (a2 : Int32) (m0 : Mem) (v : Nat ⊕ Int64) (m' : Mem) (hF : F_T_after a1 a2 m0 = some (v, m')) : CtX l G mr0 N0 yX10_after cX10_after 3 (some .long) 291 [.ref (G.2.1 + 0), .int a1, .int a2] m0 (ouL v) m' := by
  refine CtX_of hl0 (by decide) (Nat.le_of_ble_eq_true rfl) ?_
  intro p e s mid args below meth c ls C hrt hex hl hR
  have hx := C.1.1
  have hb := C.1.2.1
  have hl : lv_has ls 3 [(0, .ref (G.2.1 + 0)), (1, .int a1), (2, .int a2)] := hl
  unfold F_T_after at hF
  refine lv_aload_n hx hb (dk DX10_after 0 rfl) rfl (lv_at hl 0 rfl) ?_
  refine lv_iload_n hx hb (dk DX10_after 1 rfl) rfl (lv_at hl 1 rfl) ?_
  refine lv_iconst (v := (4 : Int32)) hx hb (dk DX10_after 2 rfl) (by decide) ?_
  rcases bndX_ex hF with ⟨ke, mq1, hzq2, hF⟩ | ⟨uq3, mq1, hzq2, hF⟩
  · have hM := C_T_mustBeBelow l hl0 G a1 (4 : Int32) m0 (Sum.inl ke) mq1 hzq2
    rw [show ouV (Sum.inl ke) = (Sum.inl ke : Ou) from rfl] at hM
    cases hF
    exact x_passV (d := 291) (k := ke) (As := [.int a1, .int (4 : Int32)]) (rest := []) C hex hR hM (by decide) (by decide) ob0 rfl wX10_149 rfl rfl (Nat.le_of_ble_eq_true rfl) hl.1 (dk DX10_after 3 rfl)
  · have hM := C_T_mustBeBelow l hl0 G a1 (4 : Int32) m0 (Sum.inr uq3) mq1 hzq2
    rw [show ouV (Sum.inr uq3) = (Sum.inr none : Ou) from rfl] at hM
    refine x_callVv (As := [.int a1, .int (4 : Int32)]) (rest := []) C hR hM (by decide) (by decide) ob0 rfl wX10_149 rfl rfl (Nat.le_of_ble_eq_true rfl) hl.1 ⟨Nat.zero_le _, Nat.zero_le _⟩ (dk DX10_after 3 rfl) (fun H locs hR => ?_)
    refine lv_aload_n hx hb (dk DX10_after 4 rfl) rfl (lv_at hl 0 rfl) ?_
    rcases bndX_ex hF with ⟨ke, mq4, hzq5, hF⟩ | ⟨uq6, mq4, hzq5, hF⟩
    · have hM := C_T_mustBeOn l hl0 G mq1 (Sum.inl ke) mq4 hzq5
      rw [show ouV (Sum.inl ke) = (Sum.inl ke : Ou) from rfl] at hM
      cases hF
      exact x_passV (d := 291) (k := ke) (As := []) (rest := []) C hex hR hM (by decide) (by decide) ob0 rfl wX10_247 rfl rfl (Nat.le_of_ble_eq_true rfl) hl.1 (dk DX10_after 5 rfl)
    · have hM := C_T_mustBeOn l hl0 G mq1 (Sum.inr uq6) mq4 hzq5
      rw [show ouV (Sum.inr uq6) = (Sum.inr none : Ou) from rfl] at hM
      refine x_callVv (As := []) (rest := []) C hR hM (by decide) (by decide) ob0 rfl wX10_247 rfl rfl (Nat.le_of_ble_eq_true rfl) hl.1 ⟨Nat.zero_le _, Nat.zero_le _⟩ (dk DX10_after 5 rfl) (fun H locs hR => ?_)
      refine lv_iload_n hx hb (dk DX10_after 6 rfl) rfl (lv_at hl 2 rfl) ?_
      obtain ⟨k19_7, ek19_7, hF⟩ := lt_ex hF
      have J19 : ∀ (mq7 : Mem) (H : Heap) (locs : List Loc) (ls : Array Slot), lv_has ls 3 [] → Rp G mr0 N0 mq7 s H locs → k19_7  mq7 = some (v, m') → W p l e (rmX 291 (ouL v)) s mid args below meth c H locs 0 0 (ZX below G mr0 N0 (ouL v) m' args s) (F0 mid 19 ls []) := by
        intro  mq7 H locs ls hl hR hF
        rw [ek19_7] at hF
        cases hF
        exact r_throw (d := 291) (k := 4) C hex hR tX10_186 strm_X10_184 (by decide) (Nat.le_of_ble_eq_true rfl) hl.1 (dk DX10_after 11 rfl) (dk DX10_after 12 rfl) (dk DX10_after 13 rfl) (dk DX10_after 14 rfl) (dk DX10_after 15 rfl)
      refine lv_if_lt (tgt := 19) hx hb (dk DX10_after 7 rfl) (by decide) (fun c11 => ?_) (fun c11 => ?_)
      · have hF := if_t c11 hF
        exact J19 mq4 _ _ ls (lv_sub hl [] rfl) hR hF
      · have hF := if_f c11 hF
        refine lv_iload_n hx hb (dk DX10_after 8 rfl) rfl (lv_at hl 2 rfl) ?_
        refine lv_iconst (v := (3 : Int32)) hx hb (dk DX10_after 9 rfl) (by decide) ?_
        refine lv_icmp_le (tgt := 29) hx hb (dk DX10_after 10 rfl) (by decide) (fun c16 => ?_) (fun c16 => ?_)
        · have hF := if_t c16 hF
          refine lv_aload_n hx hb (dk DX10_after 16 rfl) rfl (lv_at hl 0 rfl) ?_
          refine gX10_23 C hR ob0 rf0_3 (dk DX10_after 17 rfl) ?_
          refine lv_aload_n hx hb (dk DX10_after 18 rfl) rfl (lv_at hl 0 rfl) ?_
          refine lv_iload_n hx hb (dk DX10_after 19 rfl) rfl (lv_at hl 1 rfl) ?_
          obtain ⟨yq10, mq8, hzq9, hF⟩ := bnd_ex hF
          refine r_callVl (As := [.int a1]) (rest := [.ref (G.2.1 + 2)]) C hR (C_T_waysAfter l hl0 G a1 mq4 _ _ hzq9) (by decide) (by decide) ob0 rfl wX10_302 rfl rfl (Nat.le_of_ble_eq_true rfl) hl.1 ⟨Nat.zero_le _, Nat.zero_le _⟩ (dk DX10_after 20 rfl) (fun H locs hR => ?_)
          refine lv_aload_n hx hb (dk DX10_after 21 rfl) rfl (lv_at hl 0 rfl) ?_
          refine gX10_37 C hR ob0 rf0_5 (dk DX10_after 22 rfl) ?_
          refine gX10_203 C hR ob16 (dk DX10_after 23 rfl) ?_
          refine lv_iconst (v := (1 : Int32)) hx hb (dk DX10_after 24 rfl) (by decide) ?_
          refine lv_iadd hx hb (dk DX10_after 25 rfl) ?_
          refine lv_iload_n hx hb (dk DX10_after 26 rfl) rfl (lv_at hl 2 rfl) ?_
          obtain ⟨yq13, mq11, hzq12, hF⟩ := bnd_ex hF
          refine r_callVl (As := [.long yq10, .int ((gI mq8 16 3) + (1 : Int32)), .int a2]) (rest := []) C hR (C_Od_part l hl0 G yq10 ((gI mq8 16 3) + (1 : Int32)) a2 mq8 _ _ hzq12) (by decide) (by decide) ob2 rfl wX10_306 rfl rfl (Nat.le_of_ble_eq_true rfl) hl.1 ⟨Nat.zero_le _, Nat.zero_le _⟩ (dk DX10_after 27 rfl) (fun H locs hR => ?_)
          cases hF
          exact x_lret C hrt hR (dk DX10_after 28 rfl)
        · have hF := if_f c16 hF
          exact J19 mq4 _ _ ls (lv_sub hl [] rfl) hR hF
set_option maxHeartbeats 4000000 in
set_option maxRecDepth 100000 in
theorem C_Pa_roomAt (l : Launch) (hl0 : l.stackTraces = false) (G : GG) (a1 : Int32) (m0 : Mem) (v : Option Nat) (m' : Mem) (hF : F_Pa_roomAt a1 m0 = some (v, m')) : Ct l G mr0 N0 yX8_roomAt cX8_roomAt 2 (some (.object "TossGround$Match")) 1 [.ref (G.2.1 + 20), .int a1] m0 (some (rfv G.2.1 v)) m' := by
  refine Ct_of hl0 (by decide) (Nat.le_of_ble_eq_true rfl) ?_
  intro p e s mid args below meth c ls C hrt hl hR
  have hx := C.1.1
  have hb := C.1.2.1
  have hl : lv_has ls 2 [(0, .ref (G.2.1 + 20)), (1, .int a1)] := hl
  unfold F_Pa_roomAt at hF
  refine lv_iload_n hx hb (dk DX8_roomAt 0 rfl) rfl (lv_at hl 1 rfl) ?_
  obtain ⟨k10_1, ek10_1, hF⟩ := lt_ex hF
  have J10 : ∀ (mq1 : Mem) (H : Heap) (locs : List Loc) (ls : Array Slot), lv_has ls 2 [] → Rp G mr0 N0 mq1 s H locs → k10_1  mq1 = some (v, m') → W p l e (rmD 1) s mid args below meth c H locs 0 0 (MQ below (QR G mr0 N0 (some (rfv G.2.1 v)) m') args s 0 0 (fun q => G.2.1 ≤ q)) (F0 mid 10 ls []) := by
    intro  mq1 H locs ls hl hR hF
    rw [ek10_1] at hF
    refine lv_null hx hb (dk DX8_roomAt 5 rfl) ?_
    refine lv_goto (tgt := 20) hx hb (dk DX8_roomAt 6 rfl) (by decide) ?_
    cases hF
    exact r_aret C hrt ⟨_, rfl⟩ hR (dk DX8_roomAt 11 rfl)
  refine lv_if_lt (tgt := 10) hx hb (dk DX8_roomAt 1 rfl) (by decide) (fun c1 => ?_) (fun c1 => ?_)
  · have hF := if_t c1 hF
    exact J10 m0 _ _ ls (lv_sub hl [] rfl) hR hF
  · have hF := if_f c1 hF
    refine lv_iload_n hx hb (dk DX8_roomAt 2 rfl) rfl (lv_at hl 1 rfl) ?_
    refine lv_bipush (v := (12 : Int32)) hx hb (dk DX8_roomAt 3 rfl) (by decide) ?_
    refine lv_icmp_lt (tgt := 14) hx hb (dk DX8_roomAt 4 rfl) (by decide) (fun c7 => ?_) (fun c7 => ?_)
    · have hF := if_t c7 hF
      refine lv_aload_n hx hb (dk DX8_roomAt 7 rfl) rfl (lv_at hl 0 rfl) ?_
      refine gX8_18 C hR ob20 rf20_2 (dk DX8_roomAt 8 rfl) ?_
      refine lv_iload_n hx hb (dk DX8_roomAt 9 rfl) rfl (lv_at hl 1 rfl) ?_
      obtain ⟨hq2, hF⟩ := ckB_ex hF
      refine r_aald C hR ob21 hq2 (dk DX8_roomAt 10 rfl) ?_
      cases hF
      exact r_aret C hrt ⟨_, rfl⟩ hR (dk DX8_roomAt 11 rfl)
    · have hF := if_f c7 hF
      exact J10 m0 _ _ ls (lv_sub hl [] rfl) hR hF
set_option maxHeartbeats 4000000 in
set_option maxRecDepth 100000 in
theorem C_Ma_copyFrom (l : Launch) (hl0 : l.stackTraces = false) (G : GG) (o0 : Nat) (m0 : Mem) (hMo0 : isM o0) (v : Unit) (m' : Mem) (hF : F_Ma_copyFrom o0 m0 = some (v, m')) : Ct l G mr0 N0 yX5_copyFrom cX5_copyFrom 3 none 1 [.ref (G.2.1 + o0), .ref (G.2.1 + 16)] m0 none m' := by
  refine Ct_of hl0 (by decide) (Nat.le_of_ble_eq_true rfl) ?_
  intro p e s mid args below meth c ls C hrt hl hR
  have hx := C.1.1
  have hb := C.1.2.1
  have hl : lv_has ls 3 [(0, .ref (G.2.1 + o0)), (1, .ref (G.2.1 + 16))] := hl
  unfold F_Ma_copyFrom at hF
  refine lv_aload_n hx hb (dk DX5_copyFrom 0 rfl) rfl (lv_at hl 0 rfl) ?_
  refine lv_aload_n hx hb (dk DX5_copyFrom 1 rfl) rfl (lv_at hl 1 rfl) ?_
  refine gX5_9 C hR ob16 (dk DX5_copyFrom 2 rfl) ?_
  refine pX5_9 (x := gI m0 16 0) C hR hMo0.1 (dk DX5_copyFrom 3 rfl) (fun H locs hR => ?_)
  obtain ⟨mq1, emq1, hF⟩ := lt_ex hF
  have hR := Rp_at emq1 hR
  refine lv_aload_n hx hb (dk DX5_copyFrom 4 rfl) rfl (lv_at hl 0 rfl) ?_
  refine lv_aload_n hx hb (dk DX5_copyFrom 5 rfl) rfl (lv_at hl 1 rfl) ?_
  refine gX5_15 C hR ob16 (dk DX5_copyFrom 6 rfl) ?_
  refine pX5_15 (x := gI mq1 16 1) C hR hMo0.1 (dk DX5_copyFrom 7 rfl) (fun H locs hR => ?_)
  obtain ⟨mq2, emq2, hF⟩ := lt_ex hF
  have hR := Rp_at emq2 hR
  refine lv_aload_n hx hb (dk DX5_copyFrom 8 rfl) rfl (lv_at hl 0 rfl) ?_
  refine lv_aload_n hx hb (dk DX5_copyFrom 9 rfl) rfl (lv_at hl 1 rfl) ?_
  refine gX5_18 C hR ob16 (dk DX5_copyFrom 10 rfl) ?_
  refine pX5_18 (x := gI mq2 16 2) C hR hMo0.1 (dk DX5_copyFrom 11 rfl) (fun H locs hR => ?_)
  obtain ⟨mq3, emq3, hF⟩ := lt_ex hF
  have hR := Rp_at emq3 hR
  refine lv_aload_n hx hb (dk DX5_copyFrom 12 rfl) rfl (lv_at hl 0 rfl) ?_
  refine lv_aload_n hx hb (dk DX5_copyFrom 13 rfl) rfl (lv_at hl 1 rfl) ?_
  refine gX5_21 C hR ob16 (dk DX5_copyFrom 14 rfl) ?_
  refine pX5_21 (x := gI mq3 16 3) C hR hMo0.1 (dk DX5_copyFrom 15 rfl) (fun H locs hR => ?_)
  obtain ⟨mq4, emq4, hF⟩ := lt_ex hF
  have hR := Rp_at emq4 hR
  refine lv_aload_n hx hb (dk DX5_copyFrom 16 rfl) rfl (lv_at hl 0 rfl) ?_
  refine lv_aload_n hx hb (dk DX5_copyFrom 17 rfl) rfl (lv_at hl 1 rfl) ?_
  refine gX5_24 C hR ob16 (dk DX5_copyFrom 18 rfl) ?_
  refine pX5_24 (x := gI mq4 16 4) C hR hMo0.1 (dk DX5_copyFrom 19 rfl) (fun H locs hR => ?_)
  obtain ⟨mq5, emq5, hF⟩ := lt_ex hF
  have hR := Rp_at emq5 hR
  refine lv_aload_n hx hb (dk DX5_copyFrom 20 rfl) rfl (lv_at hl 0 rfl) ?_
  refine lv_aload_n hx hb (dk DX5_copyFrom 21 rfl) rfl (lv_at hl 1 rfl) ?_
  refine gX5_27 C hR ob16 (dk DX5_copyFrom 22 rfl) ?_
  refine pX5_27 (x := gZ mq5 16 5) C hR hMo0.1 (dk DX5_copyFrom 23 rfl) (fun H locs hR => ?_)
  obtain ⟨mq6, emq6, hF⟩ := lt_ex hF
  have hR := Rp_at emq6 hR
  refine lv_aload_n hx hb (dk DX5_copyFrom 24 rfl) rfl (lv_at hl 0 rfl) ?_
  refine lv_aload_n hx hb (dk DX5_copyFrom 25 rfl) rfl (lv_at hl 1 rfl) ?_
  refine gX5_31 C hR ob16 (dk DX5_copyFrom 26 rfl) ?_
  refine pX5_31 (x := gZ mq6 16 6) C hR hMo0.1 (dk DX5_copyFrom 27 rfl) (fun H locs hR => ?_)
  obtain ⟨mq7, emq7, hF⟩ := lt_ex hF
  have hR := Rp_at emq7 hR
  refine lv_aload_n hx hb (dk DX5_copyFrom 28 rfl) rfl (lv_at hl 0 rfl) ?_
  refine lv_aload_n hx hb (dk DX5_copyFrom 29 rfl) rfl (lv_at hl 1 rfl) ?_
  refine gX5_34 C hR ob16 (dk DX5_copyFrom 30 rfl) ?_
  refine pX5_34 (x := gI mq7 16 7) C hR hMo0.1 (dk DX5_copyFrom 31 rfl) (fun H locs hR => ?_)
  obtain ⟨mq8, emq8, hF⟩ := lt_ex hF
  have hR := Rp_at emq8 hR
  refine lv_aload_n hx hb (dk DX5_copyFrom 32 rfl) rfl (lv_at hl 0 rfl) ?_
  refine lv_aload_n hx hb (dk DX5_copyFrom 33 rfl) rfl (lv_at hl 1 rfl) ?_
  refine gX5_37 C hR ob16 (dk DX5_copyFrom 34 rfl) ?_
  refine pX5_37 (x := gI mq8 16 8) C hR hMo0.1 (dk DX5_copyFrom 35 rfl) (fun H locs hR => ?_)
  obtain ⟨mq9, emq9, hF⟩ := lt_ex hF
  have hR := Rp_at emq9 hR
  refine lv_aload_n hx hb (dk DX5_copyFrom 36 rfl) rfl (lv_at hl 0 rfl) ?_
  refine lv_aload_n hx hb (dk DX5_copyFrom 37 rfl) rfl (lv_at hl 1 rfl) ?_
  refine gX5_40 C hR ob16 (dk DX5_copyFrom 38 rfl) ?_
  refine pX5_40 (x := gI mq9 16 9) C hR hMo0.1 (dk DX5_copyFrom 39 rfl) (fun H locs hR => ?_)
  obtain ⟨mq10, emq10, hF⟩ := lt_ex hF
  have hR := Rp_at emq10 hR
  refine lv_iconst (v := (0 : Int32)) hx hb (dk DX5_copyFrom 40 rfl) (by decide) ?_
  refine lv_istore_n (lv' := [(2, .int (0 : Int32)), (0, .ref (G.2.1 + o0)), (1, .ref (G.2.1 + 16))]) hx hb (dk DX5_copyFrom 41 rfl) rfl hl (by decide) rfl (fun ls hl => ?_)
  have L82 : ∀ (nf : Nat) (xq12 : Int32) (mq11 : Mem) (H : Heap) (locs : List Loc) (ls : Array Slot), lv_has ls 3 [(0, .ref (G.2.1 + o0)), (1, .ref (G.2.1 + 16)), (2, .int xq12)] → Rp G mr0 N0 mq11 s H locs → F_Ma_copyFrom_L82 o0 nf xq12 mq11 = some (v, m') → W p l e (rmD 1) s mid args below meth c H locs 0 0 (MQ below (QR G mr0 N0 none m') args s 0 0 (fun q => G.2.1 ≤ q)) (F0 mid 82 ls []) := by
    intro nf
    induction nf with
    | zero =>
      intro xq12 mq11 H locs ls hl hR hF
      rw [F_Ma_copyFrom_L82] at hF
      cases hF
    | succ nf ihq14 =>
      intro xq12 mq11 H locs ls hl hR hF
      rw [F_Ma_copyFrom_L82] at hF
      refine lv_iload_n hx hb (dk DX5_copyFrom 42 rfl) rfl (lv_at hl 2 rfl) ?_
      refine lv_bipush (v := (63 : Int32)) hx hb (dk DX5_copyFrom 43 rfl) (by decide) ?_
      refine lv_icmp_ge (tgt := 106) hx hb (dk DX5_copyFrom 44 rfl) (by decide) (fun c85 => ?_) (fun c85 => ?_)
      · have hF := if_t c85 hF
        cases hF
        exact r_vret C hrt hR (dk DX5_copyFrom 55 rfl)
      · have hF := if_f c85 hF
        refine lv_aload_n hx hb (dk DX5_copyFrom 45 rfl) rfl (lv_at hl 0 rfl) ?_
        refine gX5_43 C hR hMo0.1 hMo0.2.2 (dk DX5_copyFrom 46 rfl) ?_
        refine lv_iload_n hx hb (dk DX5_copyFrom 47 rfl) rfl (lv_at hl 2 rfl) ?_
        refine lv_aload_n hx hb (dk DX5_copyFrom 48 rfl) rfl (lv_at hl 1 rfl) ?_
        refine gX5_43 C hR ob16 rf16_10 (dk DX5_copyFrom 49 rfl) ?_
        refine lv_iload_n hx hb (dk DX5_copyFrom 50 rfl) rfl (lv_at hl 2 rfl) ?_
        obtain ⟨hq15, hF⟩ := ckB_ex hF
        refine r_iald C hR ob17 hq15 (dk DX5_copyFrom 51 rfl) ?_
        refine lv_topi (fun xq16 exq16 => ?_)
        have hF := lt_at exq16 hF
        obtain ⟨hq18, hF⟩ := ckB_ex hF
        refine r_iast C hR hMo0.2.1 hq18 (dk DX5_copyFrom 52 rfl) (fun H locs hR => ?_)
        obtain ⟨mq17, emq17, hF⟩ := lt_ex hF
        have hR := Rp_at emq17 hR
        obtain ⟨xq19, exq19, hF⟩ := lt_ex hF
        refine lv_iinc (v := xq19) (lv' := [(2, .int xq19), (0, .ref (G.2.1 + o0)), (1, .ref (G.2.1 + 16))]) hx hb (dk DX5_copyFrom 53 rfl) hl (k := 2) rfl (by rw [exq19]; rfl) (by decide) rfl (fun ls hl => ?_)
        refine lv_goto (tgt := 82) hx hb (dk DX5_copyFrom 54 rfl) (by decide) ?_
        exact ihq14 xq19 mq17 _ _ ls (lv_sub hl [1, 2, 0] rfl) hR hF
  exact L82 1000000 (0 : Int32) mq10 _ _ ls (lv_sub hl [1, 2, 0] rfl) hR hF
set_option maxHeartbeats 4000000 in
set_option maxRecDepth 100000 in
theorem C_Pa_remember (l : Launch) (hl0 : l.stackTraces = false) (G : GG) (m0 : Mem) (v : Unit) (m' : Mem) (hF : F_Pa_remember m0 = some (v, m')) : Ct l G mr0 N0 yX8_remember cX8_remember 3 none 2 [.ref (G.2.1 + 20), .ref (G.2.1 + 16)] m0 none m' := by
  refine Ct_of hl0 (by decide) (Nat.le_of_ble_eq_true rfl) ?_
  intro p e s mid args below meth c ls C hrt hl hR
  have hx := C.1.1
  have hb := C.1.2.1
  have hl : lv_has ls 3 [(0, .ref (G.2.1 + 20)), (1, .ref (G.2.1 + 16))] := hl
  unfold F_Pa_remember at hF
  refine lv_aload_n hx hb (dk DX8_remember 0 rfl) rfl (lv_at hl 0 rfl) ?_
  refine lv_aload_n hx hb (dk DX8_remember 1 rfl) rfl (lv_at hl 0 rfl) ?_
  refine gX8_13 C hR ob20 (dk DX8_remember 2 rfl) ?_
  obtain ⟨qq3, mq1, hzq2, hF⟩ := bnd_ex hF
  refine r_callVr (As := [.int (gI m0 20 1)]) (rest := []) C hR (C_Pa_roomAt l hl0 G (gI m0 20 1) m0 _ _ hzq2) (by decide) (by decide) ob20 rfl wX8_23 rfl rfl (Nat.le_of_ble_eq_true rfl) hl.1 ⟨Nat.zero_le _, Nat.zero_le _⟩ (dk DX8_remember 3 rfl) (fun H locs hR => ?_)
  rcases oMat_ex hF with ⟨eoq4, hF⟩ | ⟨oq4, eoq4, hMoq4, hF⟩
  · rw [eoq4]
    refine lv_astore_nN (lv' := [(2, .null), (0, .ref (G.2.1 + 20)), (1, .ref (G.2.1 + 16))]) hx hb (dk DX8_remember 4 rfl) rfl hl (by decide) rfl (fun ls hl => ?_)
    refine lv_aload_nN hx hb (dk DX8_remember 5 rfl) rfl (lv_at hl 0 rfl) ?_
    refine lv_ifnullN (tgt := 46) hx hb (dk DX8_remember 6 rfl) (by decide) ?_
    cases hF
    exact r_vret C hrt hR (dk DX8_remember 26 rfl)
  · rw [eoq4]
    refine lv_astore_n (lv' := [(2, .ref (G.2.1 + oq4)), (0, .ref (G.2.1 + 20)), (1, .ref (G.2.1 + 16))]) hx hb (dk DX8_remember 4 rfl) rfl hl (by decide) rfl (fun ls hl => ?_)
    refine lv_aload_n hx hb (dk DX8_remember 5 rfl) rfl (lv_at hl 0 rfl) ?_
    refine lv_ifnull hx hb (dk DX8_remember 6 rfl) ?_
    refine lv_aload_n hx hb (dk DX8_remember 7 rfl) rfl (lv_at hl 0 rfl) ?_
    refine lv_aload_n hx hb (dk DX8_remember 8 rfl) rfl (lv_at hl 2 rfl) ?_
    obtain ⟨uq7, mq5, hzq6, hF⟩ := bnd_ex hF
    refine r_callVv (As := [.ref (G.2.1 + 16)]) (rest := []) C hR (C_Ma_copyFrom l hl0 G oq4 mq1 hMoq4 _ _ hzq6) (by decide) (by decide) hMoq4.1 rfl wX8_27 rfl rfl (Nat.le_of_ble_eq_true rfl) hl.1 ⟨Nat.zero_le _, Nat.zero_le _⟩ (dk DX8_remember 9 rfl) (fun H locs hR => ?_)
    refine lv_aload_n hx hb (dk DX8_remember 10 rfl) rfl (lv_at hl 1 rfl) ?_
    refine lv_aload_n hx hb (dk DX8_remember 11 rfl) rfl (lv_at hl 1 rfl) ?_
    refine gX8_13 C hR ob20 (dk DX8_remember 12 rfl) ?_
    refine lv_iconst (v := (1 : Int32)) hx hb (dk DX8_remember 13 rfl) (by decide) ?_
    refine lv_iadd hx hb (dk DX8_remember 14 rfl) ?_
    refine lv_bipush (v := (12 : Int32)) hx hb (dk DX8_remember 15 rfl) (by decide) ?_
    refine lv_irem hx hb (dk DX8_remember 16 rfl) (by decide) ?_
    refine lv_topi (fun xq8 exq8 => ?_)
    have hF := lt_at exq8 hF
    refine pX8_13 (x := xq8) C hR ob20 (dk DX8_remember 17 rfl) (fun H locs hR => ?_)
    obtain ⟨mq9, emq9, hF⟩ := lt_ex hF
    have hR := Rp_at emq9 hR
    refine lv_aload_n hx hb (dk DX8_remember 18 rfl) rfl (lv_at hl 1 rfl) ?_
    refine lv_bipush (v := (12 : Int32)) hx hb (dk DX8_remember 19 rfl) (by decide) ?_
    refine lv_aload_n hx hb (dk DX8_remember 20 rfl) rfl (lv_at hl 1 rfl) ?_
    refine gX8_7 C hR ob20 (dk DX8_remember 21 rfl) ?_
    refine lv_iconst (v := (1 : Int32)) hx hb (dk DX8_remember 22 rfl) (by decide) ?_
    refine lv_iadd hx hb (dk DX8_remember 23 rfl) ?_
    refine r_mnI C (gd q545 rfl) (by decide) (Nat.le_of_ble_eq_true rfl) hl.1 ⟨Nat.zero_le _, Nat.zero_le _⟩ (dk DX8_remember 24 rfl) ?_
    refine pX8_7 (x := mnI (12 : Int32) ((gI mq9 20 0) + (1 : Int32))) C hR ob20 (dk DX8_remember 25 rfl) (fun H locs hR => ?_)
    obtain ⟨mq10, emq10, hF⟩ := lt_ex hF
    have hR := Rp_at emq10 hR
    cases hF
    exact r_vret C hrt hR (dk DX8_remember 26 rfl)
set_option maxHeartbeats 4000000 in
set_option maxRecDepth 100000 in
theorem C_Ma_clearMatch (l : Launch) (hl0 : l.stackTraces = false) (G : GG) (m0 : Mem) (v : Unit) (m' : Mem) (hF : F_Ma_clearMatch m0 = some (v, m')) : Ct l G mr0 N0 yX5_clearMatch cX5_clearMatch 1 none 1 [.ref (G.2.1 + 16)] m0 none m' := by
  refine Ct_of hl0 (by decide) (Nat.le_of_ble_eq_true rfl) ?_
  intro p e s mid args below meth c ls C hrt hl hR
  have hx := C.1.1
  have hb := C.1.2.1
  have hl : lv_has ls 1 [(0, .ref (G.2.1 + 16))] := hl
  unfold F_Ma_clearMatch at hF
  refine lv_aload_n hx hb (dk DX5_clearMatch 0 rfl) rfl (lv_at hl 0 rfl) ?_
  refine lv_iconst (v := (-1 : Int32)) hx hb (dk DX5_clearMatch 1 rfl) (by decide) ?_
  refine pX5_9 (x := (-1 : Int32)) C hR ob16 (dk DX5_clearMatch 2 rfl) (fun H locs hR => ?_)
  obtain ⟨mq1, emq1, hF⟩ := lt_ex hF
  have hR := Rp_at emq1 hR
  refine lv_aload_n hx hb (dk DX5_clearMatch 3 rfl) rfl (lv_at hl 0 rfl) ?_
  refine lv_iconst (v := (0 : Int32)) hx hb (dk DX5_clearMatch 4 rfl) (by decide) ?_
  refine pX5_15 (x := (0 : Int32)) C hR ob16 (dk DX5_clearMatch 5 rfl) (fun H locs hR => ?_)
  obtain ⟨mq2, emq2, hF⟩ := lt_ex hF
  have hR := Rp_at emq2 hR
  refine lv_aload_n hx hb (dk DX5_clearMatch 6 rfl) rfl (lv_at hl 0 rfl) ?_
  refine lv_iconst (v := (0 : Int32)) hx hb (dk DX5_clearMatch 7 rfl) (by decide) ?_
  refine pX5_18 (x := (0 : Int32)) C hR ob16 (dk DX5_clearMatch 8 rfl) (fun H locs hR => ?_)
  obtain ⟨mq3, emq3, hF⟩ := lt_ex hF
  have hR := Rp_at emq3 hR
  refine lv_aload_n hx hb (dk DX5_clearMatch 9 rfl) rfl (lv_at hl 0 rfl) ?_
  refine lv_iconst (v := (0 : Int32)) hx hb (dk DX5_clearMatch 10 rfl) (by decide) ?_
  refine pX5_21 (x := (0 : Int32)) C hR ob16 (dk DX5_clearMatch 11 rfl) (fun H locs hR => ?_)
  obtain ⟨mq4, emq4, hF⟩ := lt_ex hF
  have hR := Rp_at emq4 hR
  refine lv_aload_n hx hb (dk DX5_clearMatch 12 rfl) rfl (lv_at hl 0 rfl) ?_
  refine lv_iconst (v := (-1 : Int32)) hx hb (dk DX5_clearMatch 13 rfl) (by decide) ?_
  refine pX5_24 (x := (-1 : Int32)) C hR ob16 (dk DX5_clearMatch 14 rfl) (fun H locs hR => ?_)
  obtain ⟨mq5, emq5, hF⟩ := lt_ex hF
  have hR := Rp_at emq5 hR
  refine lv_aload_n hx hb (dk DX5_clearMatch 15 rfl) rfl (lv_at hl 0 rfl) ?_
  refine lv_iconst (v := (0 : Int32)) hx hb (dk DX5_clearMatch 16 rfl) (by decide) ?_
  refine pX5_27 (x := false) C hR ob16 (dk DX5_clearMatch 17 rfl) (fun H locs hR => ?_)
  obtain ⟨mq6, emq6, hF⟩ := lt_ex hF
  have hR := Rp_at emq6 hR
  refine lv_aload_n hx hb (dk DX5_clearMatch 18 rfl) rfl (lv_at hl 0 rfl) ?_
  refine lv_iconst (v := (0 : Int32)) hx hb (dk DX5_clearMatch 19 rfl) (by decide) ?_
  refine pX5_31 (x := false) C hR ob16 (dk DX5_clearMatch 20 rfl) (fun H locs hR => ?_)
  obtain ⟨mq7, emq7, hF⟩ := lt_ex hF
  have hR := Rp_at emq7 hR
  refine lv_aload_n hx hb (dk DX5_clearMatch 21 rfl) rfl (lv_at hl 0 rfl) ?_
  refine lv_iconst (v := (0 : Int32)) hx hb (dk DX5_clearMatch 22 rfl) (by decide) ?_
  refine pX5_37 (x := (0 : Int32)) C hR ob16 (dk DX5_clearMatch 23 rfl) (fun H locs hR => ?_)
  obtain ⟨mq8, emq8, hF⟩ := lt_ex hF
  have hR := Rp_at emq8 hR
  refine lv_aload_n hx hb (dk DX5_clearMatch 24 rfl) rfl (lv_at hl 0 rfl) ?_
  refine lv_iconst (v := (0 : Int32)) hx hb (dk DX5_clearMatch 25 rfl) (by decide) ?_
  refine pX5_40 (x := (0 : Int32)) C hR ob16 (dk DX5_clearMatch 26 rfl) (fun H locs hR => ?_)
  obtain ⟨mq9, emq9, hF⟩ := lt_ex hF
  have hR := Rp_at emq9 hR
  cases hF
  exact r_vret C hrt hR (dk DX5_clearMatch 27 rfl)
set_option maxHeartbeats 4000000 in
set_option maxRecDepth 100000 in
theorem C_T_anew (l : Launch) (hl0 : l.stackTraces = false) (G : GG) (m0 : Mem) (v : Int32) (m' : Mem) (hF : F_T_anew m0 = some (v, m')) : Ct l G mr0 N0 yX10_anew cX10_anew 2 (some .int) 3 [.ref (G.2.1 + 0)] m0 (some (.int v)) m' := by
  refine Ct_of hl0 (by decide) (Nat.le_of_ble_eq_true rfl) ?_
  intro p e s mid args below meth c ls C hrt hl hR
  have hx := C.1.1
  have hb := C.1.2.1
  have hl : lv_has ls 2 [(0, .ref (G.2.1 + 0))] := hl
  unfold F_T_anew at hF
  refine lv_aload_n hx hb (dk DX10_anew 0 rfl) rfl (lv_at hl 0 rfl) ?_
  refine gX10_47 C hR ob0 rf0_7 (dk DX10_anew 1 rfl) ?_
  refine lv_aload_n hx hb (dk DX10_anew 2 rfl) rfl (lv_at hl 0 rfl) ?_
  refine gX10_37 C hR ob0 rf0_5 (dk DX10_anew 3 rfl) ?_
  obtain ⟨uq3, mq1, hzq2, hF⟩ := bnd_ex hF
  refine r_callVv (As := [.ref (G.2.1 + 16)]) (rest := []) C hR (C_Pa_remember l hl0 G m0 _ _ hzq2) (by decide) (by decide) ob20 rfl wX10_240 rfl rfl (Nat.le_of_ble_eq_true rfl) hl.1 ⟨Nat.zero_le _, Nat.zero_le _⟩ (dk DX10_anew 4 rfl) (fun H locs hR => ?_)
  refine lv_aload_n hx hb (dk DX10_anew 5 rfl) rfl (lv_at hl 0 rfl) ?_
  refine gX10_37 C hR ob0 rf0_5 (dk DX10_anew 6 rfl) ?_
  refine gX10_203 C hR ob16 (dk DX10_anew 7 rfl) ?_
  refine lv_topi (fun xq4 exq4 => ?_)
  have hF := lt_at exq4 hF
  refine lv_istore_n (lv' := [(1, .int xq4), (0, .ref (G.2.1 + 0))]) hx hb (dk DX10_anew 8 rfl) rfl hl (by decide) rfl (fun ls hl => ?_)
  refine lv_aload_n hx hb (dk DX10_anew 9 rfl) rfl (lv_at hl 1 rfl) ?_
  refine gX10_37 C hR ob0 rf0_5 (dk DX10_anew 10 rfl) ?_
  obtain ⟨uq7, mq5, hzq6, hF⟩ := bnd_ex hF
  refine r_callVv (As := []) (rest := []) C hR (C_Ma_clearMatch l hl0 G mq1 _ _ hzq6) (by decide) (by decide) ob16 rfl wX10_273 rfl rfl (Nat.le_of_ble_eq_true rfl) hl.1 ⟨Nat.zero_le _, Nat.zero_le _⟩ (dk DX10_anew 11 rfl) (fun H locs hR => ?_)
  refine lv_iload_n hx hb (dk DX10_anew 12 rfl) rfl (lv_at hl 0 rfl) ?_
  cases hF
  exact r_iret C hrt hR (dk DX10_anew 13 rfl)
set_option maxHeartbeats 4000000 in
set_option maxRecDepth 100000 in
theorem C_Lw_copyFrom (l : Launch) (hl0 : l.stackTraces = false) (G : GG) (m0 : Mem) (v : Unit) (m' : Mem) (hF : F_Lw_copyFrom m0 = some (v, m')) : Ct l G mr0 N0 yX3_copyFrom cX3_copyFrom 3 none 1 [.ref (G.2.1 + 8), .ref (G.2.1 + 69)] m0 none m' := by
  refine Ct_of hl0 (by decide) (Nat.le_of_ble_eq_true rfl) ?_
  intro p e s mid args below meth c ls C hrt hl hR
  have hx := C.1.1
  have hb := C.1.2.1
  have hl : lv_has ls 3 [(0, .ref (G.2.1 + 8)), (1, .ref (G.2.1 + 69))] := hl
  unfold F_Lw_copyFrom at hF
  refine lv_aload_n hx hb (dk DX3_copyFrom 0 rfl) rfl (lv_at hl 0 rfl) ?_
  refine lv_aload_n hx hb (dk DX3_copyFrom 1 rfl) rfl (lv_at hl 1 rfl) ?_
  refine gX3_9 C hR ob69 (dk DX3_copyFrom 2 rfl) ?_
  refine pX3_9 (x := gI m0 69 0) C hR ob8 (dk DX3_copyFrom 3 rfl) (fun H locs hR => ?_)
  obtain ⟨mq1, emq1, hF⟩ := lt_ex hF
  have hR := Rp_at emq1 hR
  refine lv_aload_n hx hb (dk DX3_copyFrom 4 rfl) rfl (lv_at hl 0 rfl) ?_
  refine lv_aload_n hx hb (dk DX3_copyFrom 5 rfl) rfl (lv_at hl 1 rfl) ?_
  refine gX3_15 C hR ob69 (dk DX3_copyFrom 6 rfl) ?_
  refine pX3_15 (x := gI mq1 69 1) C hR ob8 (dk DX3_copyFrom 7 rfl) (fun H locs hR => ?_)
  obtain ⟨mq2, emq2, hF⟩ := lt_ex hF
  have hR := Rp_at emq2 hR
  refine lv_iconst (v := (0 : Int32)) hx hb (dk DX3_copyFrom 8 rfl) (by decide) ?_
  refine lv_istore_n (lv' := [(2, .int (0 : Int32)), (0, .ref (G.2.1 + 8)), (1, .ref (G.2.1 + 69))]) hx hb (dk DX3_copyFrom 9 rfl) rfl hl (by decide) rfl (fun ls hl => ?_)
  have L18 : ∀ (nf : Nat) (xq4 : Int32) (mq3 : Mem) (H : Heap) (locs : List Loc) (ls : Array Slot), lv_has ls 3 [(0, .ref (G.2.1 + 8)), (1, .ref (G.2.1 + 69)), (2, .int xq4)] → Rp G mr0 N0 mq3 s H locs → F_Lw_copyFrom_L18 nf xq4 mq3 = some (v, m') → W p l e (rmD 1) s mid args below meth c H locs 0 0 (MQ below (QR G mr0 N0 none m') args s 0 0 (fun q => G.2.1 ≤ q)) (F0 mid 18 ls []) := by
    intro nf
    induction nf with
    | zero =>
      intro xq4 mq3 H locs ls hl hR hF
      rw [F_Lw_copyFrom_L18] at hF
      cases hF
    | succ nf ihq6 =>
      intro xq4 mq3 H locs ls hl hR hF
      rw [F_Lw_copyFrom_L18] at hF
      refine lv_iload_n hx hb (dk DX3_copyFrom 10 rfl) rfl (lv_at hl 2 rfl) ?_
      refine lv_sipush (v := (400 : Int32)) hx hb (dk DX3_copyFrom 11 rfl) (by decide) ?_
      refine lv_icmp_ge (tgt := 43) hx hb (dk DX3_copyFrom 12 rfl) (by decide) (fun c22 => ?_) (fun c22 => ?_)
      · have hF := if_t c22 hF
        cases hF
        exact r_vret C hrt hR (dk DX3_copyFrom 23 rfl)
      · have hF := if_f c22 hF
        refine lv_aload_n hx hb (dk DX3_copyFrom 13 rfl) rfl (lv_at hl 0 rfl) ?_
        refine gX3_18 C hR ob8 rf8_2 (dk DX3_copyFrom 14 rfl) ?_
        refine lv_iload_n hx hb (dk DX3_copyFrom 15 rfl) rfl (lv_at hl 2 rfl) ?_
        refine lv_aload_n hx hb (dk DX3_copyFrom 16 rfl) rfl (lv_at hl 1 rfl) ?_
        refine gX3_18 C hR ob69 rf69_2 (dk DX3_copyFrom 17 rfl) ?_
        refine lv_iload_n hx hb (dk DX3_copyFrom 18 rfl) rfl (lv_at hl 2 rfl) ?_
        obtain ⟨hq7, hF⟩ := ckB_ex hF
        refine r_iald C hR ob70 hq7 (dk DX3_copyFrom 19 rfl) ?_
        refine lv_topi (fun xq8 exq8 => ?_)
        have hF := lt_at exq8 hF
        obtain ⟨hq10, hF⟩ := ckB_ex hF
        refine r_iast C hR ob9 hq10 (dk DX3_copyFrom 20 rfl) (fun H locs hR => ?_)
        obtain ⟨mq9, emq9, hF⟩ := lt_ex hF
        have hR := Rp_at emq9 hR
        obtain ⟨xq11, exq11, hF⟩ := lt_ex hF
        refine lv_iinc (v := xq11) (lv' := [(2, .int xq11), (0, .ref (G.2.1 + 8)), (1, .ref (G.2.1 + 69))]) hx hb (dk DX3_copyFrom 21 rfl) hl (k := 2) rfl (by rw [exq11]; rfl) (by decide) rfl (fun ls hl => ?_)
        refine lv_goto (tgt := 18) hx hb (dk DX3_copyFrom 22 rfl) (by decide) ?_
        exact ihq6 xq11 mq9 _ _ ls (lv_sub hl [1, 2, 0] rfl) hR hF
  exact L18 1000000 (0 : Int32) mq2 _ _ ls (lv_sub hl [1, 2, 0] rfl) hR hF
set_option maxHeartbeats 4000000 in
set_option maxRecDepth 100000 in
theorem C_Bk_copyFrom (l : Launch) (hl0 : l.stackTraces = false) (G : GG) (m0 : Mem) (v : Unit) (m' : Mem) (hF : F_Bk_copyFrom m0 = some (v, m')) : Ct l G mr0 N0 yX0_copyFrom cX0_copyFrom 3 none 1 [.ref (G.2.1 + 12), .ref (G.2.1 + 73)] m0 none m' := by
  refine Ct_of hl0 (by decide) (Nat.le_of_ble_eq_true rfl) ?_
  intro p e s mid args below meth c ls C hrt hl hR
  have hx := C.1.1
  have hb := C.1.2.1
  have hl : lv_has ls 3 [(0, .ref (G.2.1 + 12)), (1, .ref (G.2.1 + 73))] := hl
  unfold F_Bk_copyFrom at hF
  refine lv_aload_n hx hb (dk DX0_copyFrom 0 rfl) rfl (lv_at hl 0 rfl) ?_
  refine lv_aload_n hx hb (dk DX0_copyFrom 1 rfl) rfl (lv_at hl 1 rfl) ?_
  refine gX0_9 C hR ob73 (dk DX0_copyFrom 2 rfl) ?_
  refine pX0_9 (x := gI m0 73 0) C hR ob12 (dk DX0_copyFrom 3 rfl) (fun H locs hR => ?_)
  obtain ⟨mq1, emq1, hF⟩ := lt_ex hF
  have hR := Rp_at emq1 hR
  refine lv_iconst (v := (0 : Int32)) hx hb (dk DX0_copyFrom 4 rfl) (by decide) ?_
  refine lv_istore_n (lv' := [(2, .int (0 : Int32)), (0, .ref (G.2.1 + 12)), (1, .ref (G.2.1 + 73))]) hx hb (dk DX0_copyFrom 5 rfl) rfl hl (by decide) rfl (fun ls hl => ?_)
  have L10 : ∀ (nf : Nat) (xq3 : Int32) (mq2 : Mem) (H : Heap) (locs : List Loc) (ls : Array Slot), lv_has ls 3 [(0, .ref (G.2.1 + 12)), (1, .ref (G.2.1 + 73)), (2, .int xq3)] → Rp G mr0 N0 mq2 s H locs → F_Bk_copyFrom_L10 nf xq3 mq2 = some (v, m') → W p l e (rmD 1) s mid args below meth c H locs 0 0 (MQ below (QR G mr0 N0 none m') args s 0 0 (fun q => G.2.1 ≤ q)) (F0 mid 10 ls []) := by
    intro nf
    induction nf with
    | zero =>
      intro xq3 mq2 H locs ls hl hR hF
      rw [F_Bk_copyFrom_L10] at hF
      cases hF
    | succ nf ihq5 =>
      intro xq3 mq2 H locs ls hl hR hF
      rw [F_Bk_copyFrom_L10] at hF
      refine lv_iload_n hx hb (dk DX0_copyFrom 6 rfl) rfl (lv_at hl 2 rfl) ?_
      refine lv_sipush (v := (180 : Int32)) hx hb (dk DX0_copyFrom 7 rfl) (by decide) ?_
      refine lv_icmp_ge (tgt := 35) hx hb (dk DX0_copyFrom 8 rfl) (by decide) (fun c14 => ?_) (fun c14 => ?_)
      · have hF := if_t c14 hF
        cases hF
        exact r_vret C hrt hR (dk DX0_copyFrom 19 rfl)
      · have hF := if_f c14 hF
        refine lv_aload_n hx hb (dk DX0_copyFrom 9 rfl) rfl (lv_at hl 0 rfl) ?_
        refine gX0_15 C hR ob12 rf12_1 (dk DX0_copyFrom 10 rfl) ?_
        refine lv_iload_n hx hb (dk DX0_copyFrom 11 rfl) rfl (lv_at hl 2 rfl) ?_
        refine lv_aload_n hx hb (dk DX0_copyFrom 12 rfl) rfl (lv_at hl 1 rfl) ?_
        refine gX0_15 C hR ob73 rf73_1 (dk DX0_copyFrom 13 rfl) ?_
        refine lv_iload_n hx hb (dk DX0_copyFrom 14 rfl) rfl (lv_at hl 2 rfl) ?_
        obtain ⟨hq6, hF⟩ := ckB_ex hF
        refine r_iald C hR ob74 hq6 (dk DX0_copyFrom 15 rfl) ?_
        refine lv_topi (fun xq7 exq7 => ?_)
        have hF := lt_at exq7 hF
        obtain ⟨hq9, hF⟩ := ckB_ex hF
        refine r_iast C hR ob13 hq9 (dk DX0_copyFrom 16 rfl) (fun H locs hR => ?_)
        obtain ⟨mq8, emq8, hF⟩ := lt_ex hF
        have hR := Rp_at emq8 hR
        obtain ⟨xq10, exq10, hF⟩ := lt_ex hF
        refine lv_iinc (v := xq10) (lv' := [(2, .int xq10), (0, .ref (G.2.1 + 12)), (1, .ref (G.2.1 + 73))]) hx hb (dk DX0_copyFrom 17 rfl) hl (k := 2) rfl (by rw [exq10]; rfl) (by decide) rfl (fun ls hl => ?_)
        refine lv_goto (tgt := 10) hx hb (dk DX0_copyFrom 18 rfl) (by decide) ?_
        exact ihq5 xq10 mq8 _ _ ls (lv_sub hl [1, 2, 0] rfl) hR hF
  exact L10 1000000 (0 : Int32) mq1 _ _ ls (lv_sub hl [1, 2, 0] rfl) hR hF
set_option maxHeartbeats 4000000 in
set_option maxRecDepth 100000 in
theorem C_Gr_copyFrom (l : Launch) (hl0 : l.stackTraces = false) (G : GG) (m0 : Mem) (v : Unit) (m' : Mem) (hF : F_Gr_copyFrom m0 = some (v, m')) : Ct l G mr0 N0 yX1_copyFrom cX1_copyFrom 3 none 2 [.ref (G.2.1 + 3), .ref (G.2.1 + 64)] m0 none m' := by
  refine Ct_of hl0 (by decide) (Nat.le_of_ble_eq_true rfl) ?_
  intro p e s mid args below meth c ls C hrt hl hR
  have hx := C.1.1
  have hb := C.1.2.1
  have hl : lv_has ls 3 [(0, .ref (G.2.1 + 3)), (1, .ref (G.2.1 + 64))] := hl
  unfold F_Gr_copyFrom at hF
  refine lv_aload_n hx hb (dk DX1_copyFrom 0 rfl) rfl (lv_at hl 0 rfl) ?_
  refine lv_aload_n hx hb (dk DX1_copyFrom 1 rfl) rfl (lv_at hl 1 rfl) ?_
  refine gX1_9 C hR ob64 (dk DX1_copyFrom 2 rfl) ?_
  refine pX1_9 (x := gI m0 64 0) C hR ob3 (dk DX1_copyFrom 3 rfl) (fun H locs hR => ?_)
  obtain ⟨mq1, emq1, hF⟩ := lt_ex hF
  have hR := Rp_at emq1 hR
  refine lv_aload_n hx hb (dk DX1_copyFrom 4 rfl) rfl (lv_at hl 0 rfl) ?_
  refine lv_aload_n hx hb (dk DX1_copyFrom 5 rfl) rfl (lv_at hl 1 rfl) ?_
  refine gX1_15 C hR ob64 (dk DX1_copyFrom 6 rfl) ?_
  refine pX1_15 (x := gI mq1 64 1) C hR ob3 (dk DX1_copyFrom 7 rfl) (fun H locs hR => ?_)
  obtain ⟨mq2, emq2, hF⟩ := lt_ex hF
  have hR := Rp_at emq2 hR
  refine lv_aload_n hx hb (dk DX1_copyFrom 8 rfl) rfl (lv_at hl 0 rfl) ?_
  refine lv_aload_n hx hb (dk DX1_copyFrom 9 rfl) rfl (lv_at hl 1 rfl) ?_
  refine gX1_18 C hR ob64 (dk DX1_copyFrom 10 rfl) ?_
  refine pX1_18 (x := gI mq2 64 2) C hR ob3 (dk DX1_copyFrom 11 rfl) (fun H locs hR => ?_)
  obtain ⟨mq3, emq3, hF⟩ := lt_ex hF
  have hR := Rp_at emq3 hR
  refine lv_aload_n hx hb (dk DX1_copyFrom 12 rfl) rfl (lv_at hl 0 rfl) ?_
  refine lv_aload_n hx hb (dk DX1_copyFrom 13 rfl) rfl (lv_at hl 1 rfl) ?_
  refine gX1_21 C hR ob64 (dk DX1_copyFrom 14 rfl) ?_
  refine pX1_21 (x := gI mq3 64 3) C hR ob3 (dk DX1_copyFrom 15 rfl) (fun H locs hR => ?_)
  obtain ⟨mq4, emq4, hF⟩ := lt_ex hF
  have hR := Rp_at emq4 hR
  refine lv_aload_n hx hb (dk DX1_copyFrom 16 rfl) rfl (lv_at hl 0 rfl) ?_
  refine lv_aload_n hx hb (dk DX1_copyFrom 17 rfl) rfl (lv_at hl 1 rfl) ?_
  refine gX1_24 C hR ob64 (dk DX1_copyFrom 18 rfl) ?_
  refine pX1_24 (x := gI mq4 64 4) C hR ob3 (dk DX1_copyFrom 19 rfl) (fun H locs hR => ?_)
  obtain ⟨mq5, emq5, hF⟩ := lt_ex hF
  have hR := Rp_at emq5 hR
  refine lv_aload_n hx hb (dk DX1_copyFrom 20 rfl) rfl (lv_at hl 0 rfl) ?_
  refine lv_aload_n hx hb (dk DX1_copyFrom 21 rfl) rfl (lv_at hl 1 rfl) ?_
  refine gX1_27 C hR ob64 (dk DX1_copyFrom 22 rfl) ?_
  refine pX1_27 (x := gI mq5 64 5) C hR ob3 (dk DX1_copyFrom 23 rfl) (fun H locs hR => ?_)
  obtain ⟨mq6, emq6, hF⟩ := lt_ex hF
  have hR := Rp_at emq6 hR
  refine lv_aload_n hx hb (dk DX1_copyFrom 24 rfl) rfl (lv_at hl 0 rfl) ?_
  refine lv_aload_n hx hb (dk DX1_copyFrom 25 rfl) rfl (lv_at hl 1 rfl) ?_
  refine gX1_30 C hR ob64 (dk DX1_copyFrom 26 rfl) ?_
  refine pX1_30 (x := gI mq6 64 6) C hR ob3 (dk DX1_copyFrom 27 rfl) (fun H locs hR => ?_)
  obtain ⟨mq7, emq7, hF⟩ := lt_ex hF
  have hR := Rp_at emq7 hR
  refine lv_iconst (v := (0 : Int32)) hx hb (dk DX1_copyFrom 28 rfl) (by decide) ?_
  refine lv_istore_n (lv' := [(2, .int (0 : Int32)), (0, .ref (G.2.1 + 3)), (1, .ref (G.2.1 + 64))]) hx hb (dk DX1_copyFrom 29 rfl) rfl hl (by decide) rfl (fun ls hl => ?_)
  obtain ⟨k93_8, ek93_8, hF⟩ := lt_ex hF
  have J93 : ∀ (mq8 : Mem) (H : Heap) (locs : List Loc) (ls : Array Slot), lv_has ls 3 [(0, .ref (G.2.1 + 3)), (1, .ref (G.2.1 + 64))] → Rp G mr0 N0 mq8 s H locs → k93_8  mq8 = some (v, m') → W p l e (rmD 2) s mid args below meth c H locs 0 0 (MQ below (QR G mr0 N0 none m') args s 0 0 (fun q => G.2.1 ≤ q)) (F0 mid 93 ls []) := by
    intro  mq8 H locs ls hl hR hF
    rw [ek93_8] at hF
    refine lv_iconst (v := (0 : Int32)) hx hb (dk DX1_copyFrom 51 rfl) (by decide) ?_
    refine lv_istore_n (lv' := [(2, .int (0 : Int32)), (0, .ref (G.2.1 + 3)), (1, .ref (G.2.1 + 64))]) hx hb (dk DX1_copyFrom 52 rfl) rfl hl (by decide) rfl (fun ls hl => ?_)
    obtain ⟨k131_9, ek131_9, hF⟩ := lt_ex hF
    have J131 : ∀ (mq9 : Mem) (H : Heap) (locs : List Loc) (ls : Array Slot), lv_has ls 3 [(0, .ref (G.2.1 + 3)), (1, .ref (G.2.1 + 64))] → Rp G mr0 N0 mq9 s H locs → k131_9  mq9 = some (v, m') → W p l e (rmD 2) s mid args below meth c H locs 0 0 (MQ below (QR G mr0 N0 none m') args s 0 0 (fun q => G.2.1 ≤ q)) (F0 mid 131 ls []) := by
      intro  mq9 H locs ls hl hR hF
      rw [ek131_9] at hF
      refine lv_aload_n hx hb (dk DX1_copyFrom 74 rfl) rfl (lv_at hl 0 rfl) ?_
      refine gX1_49 C hR ob3 rf3_11 (dk DX1_copyFrom 75 rfl) ?_
      refine lv_aload_n hx hb (dk DX1_copyFrom 76 rfl) rfl (lv_at hl 1 rfl) ?_
      refine gX1_49 C hR ob64 rf64_11 (dk DX1_copyFrom 77 rfl) ?_
      obtain ⟨uq12, mq10, hzq11, hF⟩ := bnd_ex hF
      refine r_callVv (As := [.ref (G.2.1 + 69)]) (rest := []) C hR (C_Lw_copyFrom l hl0 G mq9 _ _ hzq11) (by decide) (by decide) ob8 rfl wX1_63 rfl rfl (Nat.le_of_ble_eq_true rfl) hl.1 ⟨Nat.zero_le _, Nat.zero_le _⟩ (dk DX1_copyFrom 78 rfl) (fun H locs hR => ?_)
      refine lv_aload_n hx hb (dk DX1_copyFrom 79 rfl) rfl (lv_at hl 0 rfl) ?_
      refine gX1_56 C hR ob3 rf3_12 (dk DX1_copyFrom 80 rfl) ?_
      refine lv_aload_n hx hb (dk DX1_copyFrom 81 rfl) rfl (lv_at hl 1 rfl) ?_
      refine gX1_56 C hR ob64 rf64_12 (dk DX1_copyFrom 82 rfl) ?_
      obtain ⟨uq15, mq13, hzq14, hF⟩ := bnd_ex hF
      refine r_callVv (As := [.ref (G.2.1 + 73)]) (rest := []) C hR (C_Bk_copyFrom l hl0 G mq10 _ _ hzq14) (by decide) (by decide) ob12 rfl wX1_67 rfl rfl (Nat.le_of_ble_eq_true rfl) hl.1 ⟨Nat.zero_le _, Nat.zero_le _⟩ (dk DX1_copyFrom 83 rfl) (fun H locs hR => ?_)
      cases hF
      exact r_vret C hrt hR (dk DX1_copyFrom 84 rfl)
    have L95 : ∀ (nf : Nat) (xq17 : Int32) (mq16 : Mem) (H : Heap) (locs : List Loc) (ls : Array Slot), lv_has ls 3 [(0, .ref (G.2.1 + 3)), (1, .ref (G.2.1 + 64)), (2, .int xq17)] → Rp G mr0 N0 mq16 s H locs → F_Gr_copyFrom_L95 k131_9 nf xq17 mq16 = some (v, m') → W p l e (rmD 2) s mid args below meth c H locs 0 0 (MQ below (QR G mr0 N0 none m') args s 0 0 (fun q => G.2.1 ≤ q)) (F0 mid 95 ls []) := by
      intro nf
      induction nf with
      | zero =>
        intro xq17 mq16 H locs ls hl hR hF
        rw [F_Gr_copyFrom_L95] at hF
        cases hF
      | succ nf ihq19 =>
        intro xq17 mq16 H locs ls hl hR hF
        rw [F_Gr_copyFrom_L95] at hF
        refine lv_iload_n hx hb (dk DX1_copyFrom 53 rfl) rfl (lv_at hl 2 rfl) ?_
        refine lv_bipush (v := (16 : Int32)) hx hb (dk DX1_copyFrom 54 rfl) (by decide) ?_
        refine lv_icmp_ge (tgt := 131) hx hb (dk DX1_copyFrom 55 rfl) (by decide) (fun c98 => ?_) (fun c98 => ?_)
        · have hF := if_t c98 hF
          exact J131 mq16 _ _ ls (lv_sub hl [0, 1] rfl) hR hF
        · have hF := if_f c98 hF
          refine lv_aload_n hx hb (dk DX1_copyFrom 56 rfl) rfl (lv_at hl 0 rfl) ?_
          refine gX1_40 C hR ob3 rf3_9 (dk DX1_copyFrom 57 rfl) ?_
          refine lv_iload_n hx hb (dk DX1_copyFrom 58 rfl) rfl (lv_at hl 2 rfl) ?_
          refine lv_aload_n hx hb (dk DX1_copyFrom 59 rfl) rfl (lv_at hl 1 rfl) ?_
          refine gX1_40 C hR ob64 rf64_9 (dk DX1_copyFrom 60 rfl) ?_
          refine lv_iload_n hx hb (dk DX1_copyFrom 61 rfl) rfl (lv_at hl 2 rfl) ?_
          obtain ⟨hq20, hF⟩ := ckB_ex hF
          refine r_iald C hR ob67 hq20 (dk DX1_copyFrom 62 rfl) ?_
          refine lv_topi (fun xq21 exq21 => ?_)
          have hF := lt_at exq21 hF
          obtain ⟨hq23, hF⟩ := ckB_ex hF
          refine r_iast C hR ob6 hq23 (dk DX1_copyFrom 63 rfl) (fun H locs hR => ?_)
          obtain ⟨mq22, emq22, hF⟩ := lt_ex hF
          have hR := Rp_at emq22 hR
          refine lv_aload_n hx hb (dk DX1_copyFrom 64 rfl) rfl (lv_at hl 0 rfl) ?_
          refine gX1_43 C hR ob3 rf3_10 (dk DX1_copyFrom 65 rfl) ?_
          refine lv_iload_n hx hb (dk DX1_copyFrom 66 rfl) rfl (lv_at hl 2 rfl) ?_
          refine lv_aload_n hx hb (dk DX1_copyFrom 67 rfl) rfl (lv_at hl 1 rfl) ?_
          refine gX1_43 C hR ob64 rf64_10 (dk DX1_copyFrom 68 rfl) ?_
          refine lv_iload_n hx hb (dk DX1_copyFrom 69 rfl) rfl (lv_at hl 2 rfl) ?_
          obtain ⟨hq24, hF⟩ := ckB_ex hF
          refine r_iald C hR ob68 hq24 (dk DX1_copyFrom 70 rfl) ?_
          refine lv_topi (fun xq25 exq25 => ?_)
          have hF := lt_at exq25 hF
          obtain ⟨hq27, hF⟩ := ckB_ex hF
          refine r_iast C hR ob7 hq27 (dk DX1_copyFrom 71 rfl) (fun H locs hR => ?_)
          obtain ⟨mq26, emq26, hF⟩ := lt_ex hF
          have hR := Rp_at emq26 hR
          obtain ⟨xq28, exq28, hF⟩ := lt_ex hF
          refine lv_iinc (v := xq28) (lv' := [(2, .int xq28), (0, .ref (G.2.1 + 3)), (1, .ref (G.2.1 + 64))]) hx hb (dk DX1_copyFrom 72 rfl) hl (k := 2) rfl (by rw [exq28]; rfl) (by decide) rfl (fun ls hl => ?_)
          refine lv_goto (tgt := 95) hx hb (dk DX1_copyFrom 73 rfl) (by decide) ?_
          exact ihq19 xq28 mq26 _ _ ls (lv_sub hl [1, 2, 0] rfl) hR hF
    exact L95 1000000 (0 : Int32) mq8 _ _ ls (lv_sub hl [1, 2, 0] rfl) hR hF
  have L58 : ∀ (nf : Nat) (xq30 : Int32) (mq29 : Mem) (H : Heap) (locs : List Loc) (ls : Array Slot), lv_has ls 3 [(0, .ref (G.2.1 + 3)), (1, .ref (G.2.1 + 64)), (2, .int xq30)] → Rp G mr0 N0 mq29 s H locs → F_Gr_copyFrom_L58 k93_8 nf xq30 mq29 = some (v, m') → W p l e (rmD 2) s mid args below meth c H locs 0 0 (MQ below (QR G mr0 N0 none m') args s 0 0 (fun q => G.2.1 ≤ q)) (F0 mid 58 ls []) := by
    intro nf
    induction nf with
    | zero =>
      intro xq30 mq29 H locs ls hl hR hF
      rw [F_Gr_copyFrom_L58] at hF
      cases hF
    | succ nf ihq32 =>
      intro xq30 mq29 H locs ls hl hR hF
      rw [F_Gr_copyFrom_L58] at hF
      refine lv_iload_n hx hb (dk DX1_copyFrom 30 rfl) rfl (lv_at hl 2 rfl) ?_
      refine lv_iconst (v := (2 : Int32)) hx hb (dk DX1_copyFrom 31 rfl) (by decide) ?_
      refine lv_icmp_ge (tgt := 93) hx hb (dk DX1_copyFrom 32 rfl) (by decide) (fun c60 => ?_) (fun c60 => ?_)
      · have hF := if_t c60 hF
        exact J93 mq29 _ _ ls (lv_sub hl [0, 1] rfl) hR hF
      · have hF := if_f c60 hF
        refine lv_aload_n hx hb (dk DX1_copyFrom 33 rfl) rfl (lv_at hl 0 rfl) ?_
        refine gX1_33 C hR ob3 rf3_7 (dk DX1_copyFrom 34 rfl) ?_
        refine lv_iload_n hx hb (dk DX1_copyFrom 35 rfl) rfl (lv_at hl 2 rfl) ?_
        refine lv_aload_n hx hb (dk DX1_copyFrom 36 rfl) rfl (lv_at hl 1 rfl) ?_
        refine gX1_33 C hR ob64 rf64_7 (dk DX1_copyFrom 37 rfl) ?_
        refine lv_iload_n hx hb (dk DX1_copyFrom 38 rfl) rfl (lv_at hl 2 rfl) ?_
        obtain ⟨hq33, hF⟩ := ckB_ex hF
        refine r_iald C hR ob65 hq33 (dk DX1_copyFrom 39 rfl) ?_
        refine lv_topi (fun xq34 exq34 => ?_)
        have hF := lt_at exq34 hF
        obtain ⟨hq36, hF⟩ := ckB_ex hF
        refine r_iast C hR ob4 hq36 (dk DX1_copyFrom 40 rfl) (fun H locs hR => ?_)
        obtain ⟨mq35, emq35, hF⟩ := lt_ex hF
        have hR := Rp_at emq35 hR
        refine lv_aload_n hx hb (dk DX1_copyFrom 41 rfl) rfl (lv_at hl 0 rfl) ?_
        refine gX1_37 C hR ob3 rf3_8 (dk DX1_copyFrom 42 rfl) ?_
        refine lv_iload_n hx hb (dk DX1_copyFrom 43 rfl) rfl (lv_at hl 2 rfl) ?_
        refine lv_aload_n hx hb (dk DX1_copyFrom 44 rfl) rfl (lv_at hl 1 rfl) ?_
        refine gX1_37 C hR ob64 rf64_8 (dk DX1_copyFrom 45 rfl) ?_
        refine lv_iload_n hx hb (dk DX1_copyFrom 46 rfl) rfl (lv_at hl 2 rfl) ?_
        obtain ⟨hq37, hF⟩ := ckB_ex hF
        refine r_iald C hR ob66 hq37 (dk DX1_copyFrom 47 rfl) ?_
        refine lv_topi (fun xq38 exq38 => ?_)
        have hF := lt_at exq38 hF
        obtain ⟨hq40, hF⟩ := ckB_ex hF
        refine r_iast C hR ob5 hq40 (dk DX1_copyFrom 48 rfl) (fun H locs hR => ?_)
        obtain ⟨mq39, emq39, hF⟩ := lt_ex hF
        have hR := Rp_at emq39 hR
        obtain ⟨xq41, exq41, hF⟩ := lt_ex hF
        refine lv_iinc (v := xq41) (lv' := [(2, .int xq41), (0, .ref (G.2.1 + 3)), (1, .ref (G.2.1 + 64))]) hx hb (dk DX1_copyFrom 49 rfl) hl (k := 2) rfl (by rw [exq41]; rfl) (by decide) rfl (fun ls hl => ?_)
        refine lv_goto (tgt := 58) hx hb (dk DX1_copyFrom 50 rfl) (by decide) ?_
        exact ihq32 xq41 mq39 _ _ ls (lv_sub hl [1, 2, 0] rfl) hR hF
  exact L58 1000000 (0 : Int32) mq7 _ _ ls (lv_sub hl [1, 2, 0] rfl) hR hF
set_option maxHeartbeats 4000000 in
set_option maxRecDepth 100000 in
theorem C_Ma_copyFrom_2 (l : Launch) (hl0 : l.stackTraces = false) (G : GG) (m0 : Mem) (v : Unit) (m' : Mem) (hF : F_Ma_copyFrom_2 m0 = some (v, m')) : Ct l G mr0 N0 yX5_copyFrom cX5_copyFrom 3 none 1 [.ref (G.2.1 + 16), .ref (G.2.1 + 76)] m0 none m' := by
  refine Ct_of hl0 (by decide) (Nat.le_of_ble_eq_true rfl) ?_
  intro p e s mid args below meth c ls C hrt hl hR
  have hx := C.1.1
  have hb := C.1.2.1
  have hl : lv_has ls 3 [(0, .ref (G.2.1 + 16)), (1, .ref (G.2.1 + 76))] := hl
  unfold F_Ma_copyFrom_2 at hF
  refine lv_aload_n hx hb (dk DX5_copyFrom 0 rfl) rfl (lv_at hl 0 rfl) ?_
  refine lv_aload_n hx hb (dk DX5_copyFrom 1 rfl) rfl (lv_at hl 1 rfl) ?_
  refine gX5_9 C hR ob76 (dk DX5_copyFrom 2 rfl) ?_
  refine pX5_9 (x := gI m0 76 0) C hR ob16 (dk DX5_copyFrom 3 rfl) (fun H locs hR => ?_)
  obtain ⟨mq1, emq1, hF⟩ := lt_ex hF
  have hR := Rp_at emq1 hR
  refine lv_aload_n hx hb (dk DX5_copyFrom 4 rfl) rfl (lv_at hl 0 rfl) ?_
  refine lv_aload_n hx hb (dk DX5_copyFrom 5 rfl) rfl (lv_at hl 1 rfl) ?_
  refine gX5_15 C hR ob76 (dk DX5_copyFrom 6 rfl) ?_
  refine pX5_15 (x := gI mq1 76 1) C hR ob16 (dk DX5_copyFrom 7 rfl) (fun H locs hR => ?_)
  obtain ⟨mq2, emq2, hF⟩ := lt_ex hF
  have hR := Rp_at emq2 hR
  refine lv_aload_n hx hb (dk DX5_copyFrom 8 rfl) rfl (lv_at hl 0 rfl) ?_
  refine lv_aload_n hx hb (dk DX5_copyFrom 9 rfl) rfl (lv_at hl 1 rfl) ?_
  refine gX5_18 C hR ob76 (dk DX5_copyFrom 10 rfl) ?_
  refine pX5_18 (x := gI mq2 76 2) C hR ob16 (dk DX5_copyFrom 11 rfl) (fun H locs hR => ?_)
  obtain ⟨mq3, emq3, hF⟩ := lt_ex hF
  have hR := Rp_at emq3 hR
  refine lv_aload_n hx hb (dk DX5_copyFrom 12 rfl) rfl (lv_at hl 0 rfl) ?_
  refine lv_aload_n hx hb (dk DX5_copyFrom 13 rfl) rfl (lv_at hl 1 rfl) ?_
  refine gX5_21 C hR ob76 (dk DX5_copyFrom 14 rfl) ?_
  refine pX5_21 (x := gI mq3 76 3) C hR ob16 (dk DX5_copyFrom 15 rfl) (fun H locs hR => ?_)
  obtain ⟨mq4, emq4, hF⟩ := lt_ex hF
  have hR := Rp_at emq4 hR
  refine lv_aload_n hx hb (dk DX5_copyFrom 16 rfl) rfl (lv_at hl 0 rfl) ?_
  refine lv_aload_n hx hb (dk DX5_copyFrom 17 rfl) rfl (lv_at hl 1 rfl) ?_
  refine gX5_24 C hR ob76 (dk DX5_copyFrom 18 rfl) ?_
  refine pX5_24 (x := gI mq4 76 4) C hR ob16 (dk DX5_copyFrom 19 rfl) (fun H locs hR => ?_)
  obtain ⟨mq5, emq5, hF⟩ := lt_ex hF
  have hR := Rp_at emq5 hR
  refine lv_aload_n hx hb (dk DX5_copyFrom 20 rfl) rfl (lv_at hl 0 rfl) ?_
  refine lv_aload_n hx hb (dk DX5_copyFrom 21 rfl) rfl (lv_at hl 1 rfl) ?_
  refine gX5_27 C hR ob76 (dk DX5_copyFrom 22 rfl) ?_
  refine pX5_27 (x := gZ mq5 76 5) C hR ob16 (dk DX5_copyFrom 23 rfl) (fun H locs hR => ?_)
  obtain ⟨mq6, emq6, hF⟩ := lt_ex hF
  have hR := Rp_at emq6 hR
  refine lv_aload_n hx hb (dk DX5_copyFrom 24 rfl) rfl (lv_at hl 0 rfl) ?_
  refine lv_aload_n hx hb (dk DX5_copyFrom 25 rfl) rfl (lv_at hl 1 rfl) ?_
  refine gX5_31 C hR ob76 (dk DX5_copyFrom 26 rfl) ?_
  refine pX5_31 (x := gZ mq6 76 6) C hR ob16 (dk DX5_copyFrom 27 rfl) (fun H locs hR => ?_)
  obtain ⟨mq7, emq7, hF⟩ := lt_ex hF
  have hR := Rp_at emq7 hR
  refine lv_aload_n hx hb (dk DX5_copyFrom 28 rfl) rfl (lv_at hl 0 rfl) ?_
  refine lv_aload_n hx hb (dk DX5_copyFrom 29 rfl) rfl (lv_at hl 1 rfl) ?_
  refine gX5_34 C hR ob76 (dk DX5_copyFrom 30 rfl) ?_
  refine pX5_34 (x := gI mq7 76 7) C hR ob16 (dk DX5_copyFrom 31 rfl) (fun H locs hR => ?_)
  obtain ⟨mq8, emq8, hF⟩ := lt_ex hF
  have hR := Rp_at emq8 hR
  refine lv_aload_n hx hb (dk DX5_copyFrom 32 rfl) rfl (lv_at hl 0 rfl) ?_
  refine lv_aload_n hx hb (dk DX5_copyFrom 33 rfl) rfl (lv_at hl 1 rfl) ?_
  refine gX5_37 C hR ob76 (dk DX5_copyFrom 34 rfl) ?_
  refine pX5_37 (x := gI mq8 76 8) C hR ob16 (dk DX5_copyFrom 35 rfl) (fun H locs hR => ?_)
  obtain ⟨mq9, emq9, hF⟩ := lt_ex hF
  have hR := Rp_at emq9 hR
  refine lv_aload_n hx hb (dk DX5_copyFrom 36 rfl) rfl (lv_at hl 0 rfl) ?_
  refine lv_aload_n hx hb (dk DX5_copyFrom 37 rfl) rfl (lv_at hl 1 rfl) ?_
  refine gX5_40 C hR ob76 (dk DX5_copyFrom 38 rfl) ?_
  refine pX5_40 (x := gI mq9 76 9) C hR ob16 (dk DX5_copyFrom 39 rfl) (fun H locs hR => ?_)
  obtain ⟨mq10, emq10, hF⟩ := lt_ex hF
  have hR := Rp_at emq10 hR
  refine lv_iconst (v := (0 : Int32)) hx hb (dk DX5_copyFrom 40 rfl) (by decide) ?_
  refine lv_istore_n (lv' := [(2, .int (0 : Int32)), (0, .ref (G.2.1 + 16)), (1, .ref (G.2.1 + 76))]) hx hb (dk DX5_copyFrom 41 rfl) rfl hl (by decide) rfl (fun ls hl => ?_)
  have L82 : ∀ (nf : Nat) (xq12 : Int32) (mq11 : Mem) (H : Heap) (locs : List Loc) (ls : Array Slot), lv_has ls 3 [(0, .ref (G.2.1 + 16)), (1, .ref (G.2.1 + 76)), (2, .int xq12)] → Rp G mr0 N0 mq11 s H locs → F_Ma_copyFrom_2_L82 nf xq12 mq11 = some (v, m') → W p l e (rmD 1) s mid args below meth c H locs 0 0 (MQ below (QR G mr0 N0 none m') args s 0 0 (fun q => G.2.1 ≤ q)) (F0 mid 82 ls []) := by
    intro nf
    induction nf with
    | zero =>
      intro xq12 mq11 H locs ls hl hR hF
      rw [F_Ma_copyFrom_2_L82] at hF
      cases hF
    | succ nf ihq14 =>
      intro xq12 mq11 H locs ls hl hR hF
      rw [F_Ma_copyFrom_2_L82] at hF
      refine lv_iload_n hx hb (dk DX5_copyFrom 42 rfl) rfl (lv_at hl 2 rfl) ?_
      refine lv_bipush (v := (63 : Int32)) hx hb (dk DX5_copyFrom 43 rfl) (by decide) ?_
      refine lv_icmp_ge (tgt := 106) hx hb (dk DX5_copyFrom 44 rfl) (by decide) (fun c85 => ?_) (fun c85 => ?_)
      · have hF := if_t c85 hF
        cases hF
        exact r_vret C hrt hR (dk DX5_copyFrom 55 rfl)
      · have hF := if_f c85 hF
        refine lv_aload_n hx hb (dk DX5_copyFrom 45 rfl) rfl (lv_at hl 0 rfl) ?_
        refine gX5_43 C hR ob16 rf16_10 (dk DX5_copyFrom 46 rfl) ?_
        refine lv_iload_n hx hb (dk DX5_copyFrom 47 rfl) rfl (lv_at hl 2 rfl) ?_
        refine lv_aload_n hx hb (dk DX5_copyFrom 48 rfl) rfl (lv_at hl 1 rfl) ?_
        refine gX5_43 C hR ob76 rf76_10 (dk DX5_copyFrom 49 rfl) ?_
        refine lv_iload_n hx hb (dk DX5_copyFrom 50 rfl) rfl (lv_at hl 2 rfl) ?_
        obtain ⟨hq15, hF⟩ := ckB_ex hF
        refine r_iald C hR ob77 hq15 (dk DX5_copyFrom 51 rfl) ?_
        refine lv_topi (fun xq16 exq16 => ?_)
        have hF := lt_at exq16 hF
        obtain ⟨hq18, hF⟩ := ckB_ex hF
        refine r_iast C hR ob17 hq18 (dk DX5_copyFrom 52 rfl) (fun H locs hR => ?_)
        obtain ⟨mq17, emq17, hF⟩ := lt_ex hF
        have hR := Rp_at emq17 hR
        obtain ⟨xq19, exq19, hF⟩ := lt_ex hF
        refine lv_iinc (v := xq19) (lv' := [(2, .int xq19), (0, .ref (G.2.1 + 16)), (1, .ref (G.2.1 + 76))]) hx hb (dk DX5_copyFrom 53 rfl) hl (k := 2) rfl (by rw [exq19]; rfl) (by decide) rfl (fun ls hl => ?_)
        refine lv_goto (tgt := 82) hx hb (dk DX5_copyFrom 54 rfl) (by decide) ?_
        exact ihq14 xq19 mq17 _ _ ls (lv_sub hl [1, 2, 0] rfl) hR hF
  exact L82 1000000 (0 : Int32) mq10 _ _ ls (lv_sub hl [1, 2, 0] rfl) hR hF
set_option maxHeartbeats 4000000 in
set_option maxRecDepth 100000 in
theorem C_Gr_forgetLevels (l : Launch) (hl0 : l.stackTraces = false) (G : GG) (m0 : Mem) (v : Unit) (m' : Mem) (hF : F_Gr_forgetLevels m0 = some (v, m')) : Ct l G mr0 N0 yX1_forgetLevels cX1_forgetLevels 2 none 1 [.ref (G.2.1 + 3)] m0 none m' := by
  refine Ct_of hl0 (by decide) (Nat.le_of_ble_eq_true rfl) ?_
  intro p e s mid args below meth c ls C hrt hl hR
  have hx := C.1.1
  have hb := C.1.2.1
  have hl : lv_has ls 2 [(0, .ref (G.2.1 + 3))] := hl
  unfold F_Gr_forgetLevels at hF
  refine lv_iconst (v := (0 : Int32)) hx hb (dk DX1_forgetLevels 0 rfl) (by decide) ?_
  refine lv_istore_n (lv' := [(1, .int (0 : Int32)), (0, .ref (G.2.1 + 3))]) hx hb (dk DX1_forgetLevels 1 rfl) rfl hl (by decide) rfl (fun ls hl => ?_)
  have L2 : ∀ (nf : Nat) (xq2 : Int32) (mq1 : Mem) (H : Heap) (locs : List Loc) (ls : Array Slot), lv_has ls 2 [(0, .ref (G.2.1 + 3)), (1, .int xq2)] → Rp G mr0 N0 mq1 s H locs → F_Gr_forgetLevels_L2 nf xq2 mq1 = some (v, m') → W p l e (rmD 1) s mid args below meth c H locs 0 0 (MQ below (QR G mr0 N0 none m') args s 0 0 (fun q => G.2.1 ≤ q)) (F0 mid 2 ls []) := by
    intro nf
    induction nf with
    | zero =>
      intro xq2 mq1 H locs ls hl hR hF
      rw [F_Gr_forgetLevels_L2] at hF
      cases hF
    | succ nf ihq4 =>
      intro xq2 mq1 H locs ls hl hR hF
      rw [F_Gr_forgetLevels_L2] at hF
      refine lv_iload_n hx hb (dk DX1_forgetLevels 2 rfl) rfl (lv_at hl 1 rfl) ?_
      refine lv_bipush (v := (72 : Int32)) hx hb (dk DX1_forgetLevels 3 rfl) (by decide) ?_
      refine lv_icmp_ge (tgt := 21) hx hb (dk DX1_forgetLevels 4 rfl) (by decide) (fun c5 => ?_) (fun c5 => ?_)
      · have hF := if_t c5 hF
        cases hF
        exact r_vret C hrt hR (dk DX1_forgetLevels 12 rfl)
      · have hF := if_f c5 hF
        refine lv_aload_n hx hb (dk DX1_forgetLevels 5 rfl) rfl (lv_at hl 0 rfl) ?_
        refine gX1_60 C hR ob3 rf3_13 (dk DX1_forgetLevels 6 rfl) ?_
        refine lv_iload_n hx hb (dk DX1_forgetLevels 7 rfl) rfl (lv_at hl 1 rfl) ?_
        refine lv_iconst (v := (-1 : Int32)) hx hb (dk DX1_forgetLevels 8 rfl) (by decide) ?_
        obtain ⟨hq6, hF⟩ := ckB_ex hF
        refine r_iast C hR ob14 hq6 (dk DX1_forgetLevels 9 rfl) (fun H locs hR => ?_)
        obtain ⟨mq5, emq5, hF⟩ := lt_ex hF
        have hR := Rp_at emq5 hR
        obtain ⟨xq7, exq7, hF⟩ := lt_ex hF
        refine lv_iinc (v := xq7) (lv' := [(1, .int xq7), (0, .ref (G.2.1 + 3))]) hx hb (dk DX1_forgetLevels 10 rfl) hl (k := 1) rfl (by rw [exq7]; rfl) (by decide) rfl (fun ls hl => ?_)
        refine lv_goto (tgt := 2) hx hb (dk DX1_forgetLevels 11 rfl) (by decide) ?_
        exact ihq4 xq7 mq5 _ _ ls (lv_sub hl [1, 0] rfl) hR hF
  exact L2 1000000 (0 : Int32) m0 _ _ ls (lv_sub hl [1, 0] rfl) hR hF
set_option maxHeartbeats 4000000 in
set_option maxRecDepth 100000 in
theorem C_Od_forget (l : Launch) (hl0 : l.stackTraces = false) (G : GG) (m0 : Mem) (v : Unit) (m' : Mem) (hF : F_Od_forget m0 = some (v, m')) : Ct l G mr0 N0 yX7_forget cX7_forget 1 none 1 [.ref (G.2.1 + 2)] m0 none m' := by
  refine Ct_of hl0 (by decide) (Nat.le_of_ble_eq_true rfl) ?_
  intro p e s mid args below meth c ls C hrt hl hR
  have hx := C.1.1
  have hb := C.1.2.1
  have hl : lv_has ls 1 [(0, .ref (G.2.1 + 2))] := hl
  unfold F_Od_forget at hF
  refine lv_aload_n hx hb (dk DX7_forget 0 rfl) rfl (lv_at hl 0 rfl) ?_
  refine lv_iconst (v := (1 : Int32)) hx hb (dk DX7_forget 1 rfl) (by decide) ?_
  refine pX7_27 (x := true) C hR ob2 (dk DX7_forget 2 rfl) (fun H locs hR => ?_)
  obtain ⟨mq1, emq1, hF⟩ := lt_ex hF
  have hR := Rp_at emq1 hR
  refine lv_aload_n hx hb (dk DX7_forget 3 rfl) rfl (lv_at hl 0 rfl) ?_
  refine lv_ldc2 (v := (-1 : Int64)) hx hb C.1.2.2.2.1 (C.1.2.2.2.2 _ (gd q285 rfl)) (dk DX7_forget 4 rfl) ?_
  refine pX7_43 (x := (-1 : Int64)) C hR ob2 (dk DX7_forget 5 rfl) (fun H locs hR => ?_)
  obtain ⟨mq2, emq2, hF⟩ := lt_ex hF
  have hR := Rp_at emq2 hR
  refine lv_aload_n hx hb (dk DX7_forget 6 rfl) rfl (lv_at hl 0 rfl) ?_
  refine lv_ldc2 (v := (-1 : Int64)) hx hb C.1.2.2.2.1 (C.1.2.2.2.2 _ (gd q285 rfl)) (dk DX7_forget 7 rfl) ?_
  refine pX7_46 (x := (-1 : Int64)) C hR ob2 (dk DX7_forget 8 rfl) (fun H locs hR => ?_)
  obtain ⟨mq3, emq3, hF⟩ := lt_ex hF
  have hR := Rp_at emq3 hR
  cases hF
  exact r_vret C hrt hR (dk DX7_forget 9 rfl)
set_option maxHeartbeats 4000000 in
set_option maxRecDepth 100000 in
theorem C_Pa_clearAll (l : Launch) (hl0 : l.stackTraces = false) (G : GG) (m0 : Mem) (v : Unit) (m' : Mem) (hF : F_Pa_clearAll m0 = some (v, m')) : Ct l G mr0 N0 yX8_clearAll cX8_clearAll 1 none 1 [.ref (G.2.1 + 20)] m0 none m' := by
  refine Ct_of hl0 (by decide) (Nat.le_of_ble_eq_true rfl) ?_
  intro p e s mid args below meth c ls C hrt hl hR
  have hx := C.1.1
  have hb := C.1.2.1
  have hl : lv_has ls 1 [(0, .ref (G.2.1 + 20))] := hl
  unfold F_Pa_clearAll at hF
  refine lv_aload_n hx hb (dk DX8_clearAll 0 rfl) rfl (lv_at hl 0 rfl) ?_
  refine lv_iconst (v := (0 : Int32)) hx hb (dk DX8_clearAll 1 rfl) (by decide) ?_
  refine pX8_7 (x := (0 : Int32)) C hR ob20 (dk DX8_clearAll 2 rfl) (fun H locs hR => ?_)
  obtain ⟨mq1, emq1, hF⟩ := lt_ex hF
  have hR := Rp_at emq1 hR
  cases hF
  exact r_vret C hrt hR (dk DX8_clearAll 3 rfl)
set_option maxHeartbeats 4000000 in
set_option maxRecDepth 100000 in
theorem C_T_startAfresh (l : Launch) (hl0 : l.stackTraces = false) (G : GG) (m0 : Mem) (v : Unit) (m' : Mem) (hF : F_T_startAfresh m0 = some (v, m')) : Ct l G mr0 N0 yX10_startAfresh cX10_startAfresh 1 none 2 [.ref (G.2.1 + 0)] m0 none m' := by
  refine Ct_of hl0 (by decide) (Nat.le_of_ble_eq_true rfl) ?_
  intro p e s mid args below meth c ls C hrt hl hR
  have hx := C.1.1
  have hb := C.1.2.1
  have hl : lv_has ls 1 [(0, .ref (G.2.1 + 0))] := hl
  unfold F_T_startAfresh at hF
  refine lv_aload_n hx hb (dk DX10_startAfresh 0 rfl) rfl (lv_at hl 0 rfl) ?_
  refine gX10_31 C hR ob0 rf0_4 (dk DX10_startAfresh 1 rfl) ?_
  obtain ⟨uq3, mq1, hzq2, hF⟩ := bnd_ex hF
  refine r_callVv (As := []) (rest := []) C hR (C_Gr_forgetLevels l hl0 G m0 _ _ hzq2) (by decide) (by decide) ob3 rfl wX10_406 rfl rfl (Nat.le_of_ble_eq_true rfl) hl.1 ⟨Nat.zero_le _, Nat.zero_le _⟩ (dk DX10_startAfresh 2 rfl) (fun H locs hR => ?_)
  refine lv_aload_n hx hb (dk DX10_startAfresh 3 rfl) rfl (lv_at hl 0 rfl) ?_
  refine gX10_23 C hR ob0 rf0_3 (dk DX10_startAfresh 4 rfl) ?_
  obtain ⟨uq6, mq4, hzq5, hF⟩ := bnd_ex hF
  refine r_callVv (As := []) (rest := []) C hR (C_Od_forget l hl0 G mq1 _ _ hzq5) (by decide) (by decide) ob2 rfl wX10_409 rfl rfl (Nat.le_of_ble_eq_true rfl) hl.1 ⟨Nat.zero_le _, Nat.zero_le _⟩ (dk DX10_startAfresh 5 rfl) (fun H locs hR => ?_)
  refine lv_aload_n hx hb (dk DX10_startAfresh 6 rfl) rfl (lv_at hl 0 rfl) ?_
  refine gX10_47 C hR ob0 rf0_7 (dk DX10_startAfresh 7 rfl) ?_
  obtain ⟨uq9, mq7, hzq8, hF⟩ := bnd_ex hF
  refine r_callVv (As := []) (rest := []) C hR (C_Pa_clearAll l hl0 G mq4 _ _ hzq8) (by decide) (by decide) ob20 rfl wX10_412 rfl rfl (Nat.le_of_ble_eq_true rfl) hl.1 ⟨Nat.zero_le _, Nat.zero_le _⟩ (dk DX10_startAfresh 8 rfl) (fun H locs hR => ?_)
  cases hF
  exact r_vret C hrt hR (dk DX10_startAfresh 9 rfl)
set_option maxHeartbeats 4000000 in
set_option maxRecDepth 100000 in
theorem C_T_back (l : Launch) (hl0 : l.stackTraces = false) (G : GG) (m0 : Mem) (v : Bool) (m' : Mem) (hF : F_T_back m0 = some (v, m')) : Ct l G mr0 N0 yX10_back cX10_back 1 (some .boolean) 3 [.ref (G.2.1 + 0)] m0 (some (.int (b2i v))) m' := by
  refine Ct_of hl0 (by decide) (Nat.le_of_ble_eq_true rfl) ?_
  intro p e s mid args below meth c ls C hrt hl hR
  have hx := C.1.1
  have hb := C.1.2.1
  have hl : lv_has ls 1 [(0, .ref (G.2.1 + 0))] := hl
  unfold F_T_back at hF
  refine lv_aload_n hx hb (dk DX10_back 0 rfl) rfl (lv_at hl 0 rfl) ?_
  refine gX10_81 C hR ob0 (dk DX10_back 1 rfl) ?_
  refine z_ifne (tgt := 9) hx hb (dk DX10_back 2 rfl) (by decide) (fun c4 => ?_) (fun c4 => ?_)
  · have hF := if_t c4 hF
    refine lv_aload_n hx hb (dk DX10_back 5 rfl) rfl (lv_at hl 0 rfl) ?_
    refine gX10_31 C hR ob0 rf0_4 (dk DX10_back 6 rfl) ?_
    refine lv_aload_n hx hb (dk DX10_back 7 rfl) rfl (lv_at hl 0 rfl) ?_
    refine gX10_75 C hR ob0 rf0_11 (dk DX10_back 8 rfl) ?_
    obtain ⟨uq3, mq1, hzq2, hF⟩ := bnd_ex hF
    refine r_callVv (As := [.ref (G.2.1 + 64)]) (rest := []) C hR (C_Gr_copyFrom l hl0 G m0 _ _ hzq2) (by decide) (by decide) ob3 rfl wX10_283 rfl rfl (Nat.le_of_ble_eq_true rfl) hl.1 ⟨Nat.zero_le _, Nat.zero_le _⟩ (dk DX10_back 9 rfl) (fun H locs hR => ?_)
    refine lv_aload_n hx hb (dk DX10_back 10 rfl) rfl (lv_at hl 0 rfl) ?_
    refine gX10_37 C hR ob0 rf0_5 (dk DX10_back 11 rfl) ?_
    refine lv_aload_n hx hb (dk DX10_back 12 rfl) rfl (lv_at hl 0 rfl) ?_
    refine gX10_78 C hR ob0 rf0_12 (dk DX10_back 13 rfl) ?_
    obtain ⟨uq6, mq4, hzq5, hF⟩ := bnd_ex hF
    refine r_callVv (As := [.ref (G.2.1 + 76)]) (rest := []) C hR (C_Ma_copyFrom_2 l hl0 G mq1 _ _ hzq5) (by decide) (by decide) ob16 rfl wX10_285 rfl rfl (Nat.le_of_ble_eq_true rfl) hl.1 ⟨Nat.zero_le _, Nat.zero_le _⟩ (dk DX10_back 14 rfl) (fun H locs hR => ?_)
    refine lv_aload_n hx hb (dk DX10_back 15 rfl) rfl (lv_at hl 0 rfl) ?_
    obtain ⟨uq9, mq7, hzq8, hF⟩ := bnd_ex hF
    refine r_callVv (As := []) (rest := []) C hR (C_T_startAfresh l hl0 G mq4 _ _ hzq8) (by decide) (by decide) ob0 rfl wX10_128 rfl rfl (Nat.le_of_ble_eq_true rfl) hl.1 ⟨Nat.zero_le _, Nat.zero_le _⟩ (dk DX10_back 16 rfl) (fun H locs hR => ?_)
    refine lv_iconst (v := (1 : Int32)) hx hb (dk DX10_back 17 rfl) (by decide) ?_
    cases hF
    exact r_zret C hrt hR (dk DX10_back 18 rfl)
  · have hF := if_f c4 hF
    refine lv_iconst (v := (0 : Int32)) hx hb (dk DX10_back 3 rfl) (by decide) ?_
    cases hF
    exact r_zret C hrt hR (dk DX10_back 4 rfl)
set_option maxHeartbeats 4000000 in
set_option maxRecDepth 100000 in
theorem C_T_useTape (l : Launch) (hl0 : l.stackTraces = false) (G : GG) (m0 : Mem) (v : Int32) (m' : Mem) (hF : F_T_useTape m0 = some (v, m')) : Ct l G mr0 N0 yX10_useTape cX10_useTape 2 (some .int) 1 [.ref (G.2.1 + 0)] m0 (some (.int v)) m' := by
  refine Ct_of hl0 (by decide) (Nat.le_of_ble_eq_true rfl) ?_
  intro p e s mid args below meth c ls C hrt hl hR
  have hx := C.1.1
  have hb := C.1.2.1
  have hl : lv_has ls 2 [(0, .ref (G.2.1 + 0))] := hl
  unfold F_T_useTape at hF
  refine lv_aload_n hx hb (dk DX10_useTape 0 rfl) rfl (lv_at hl 0 rfl) ?_
  refine gX10_13 C hR ob0 (dk DX10_useTape 1 rfl) ?_
  refine lv_topi (fun xq1 exq1 => ?_)
  have hF := lt_at exq1 hF
  refine lv_istore_n (lv' := [(1, .int xq1), (0, .ref (G.2.1 + 0))]) hx hb (dk DX10_useTape 2 rfl) rfl hl (by decide) rfl (fun ls hl => ?_)
  refine lv_aload_n hx hb (dk DX10_useTape 3 rfl) rfl (lv_at hl 1 rfl) ?_
  refine lv_iconst (v := (0 : Int32)) hx hb (dk DX10_useTape 4 rfl) (by decide) ?_
  refine pX10_13 (x := (0 : Int32)) C hR ob0 (dk DX10_useTape 5 rfl) (fun H locs hR => ?_)
  obtain ⟨mq2, emq2, hF⟩ := lt_ex hF
  have hR := Rp_at emq2 hR
  refine lv_iload_n hx hb (dk DX10_useTape 6 rfl) rfl (lv_at hl 0 rfl) ?_
  cases hF
  exact r_iret C hrt hR (dk DX10_useTape 7 rfl)
set_option maxHeartbeats 4000000 in
set_option maxRecDepth 100000 in
theorem C_T_tapeIsBelow (l : Launch) (hl0 : l.stackTraces = false) (G : GG) (a1 : Int32) (a2 : Int32) (m0 : Mem) (v : Bool) (m' : Mem) (hF : F_T_tapeIsBelow a1 a2 m0 = some (v, m')) : Ct l G mr0 N0 yX10_tapeIsBelow cX10_tapeIsBelow 4 (some .boolean) 1 [.ref (G.2.1 + 0), .int a1, .int a2] m0 (some (.int (b2i v))) m' := by
  refine Ct_of hl0 (by decide) (Nat.le_of_ble_eq_true rfl) ?_
  intro p e s mid args below meth c ls C hrt hl hR
  have hx := C.1.1
  have hb := C.1.2.1
  have hl : lv_has ls 4 [(0, .ref (G.2.1 + 0)), (1, .int a1), (2, .int a2)] := hl
  unfold F_T_tapeIsBelow at hF
  refine lv_iconst (v := (0 : Int32)) hx hb (dk DX10_tapeIsBelow 0 rfl) (by decide) ?_
  refine lv_istore_n (lv' := [(3, .int (0 : Int32)), (0, .ref (G.2.1 + 0)), (1, .int a1), (2, .int a2)]) hx hb (dk DX10_tapeIsBelow 1 rfl) rfl hl (by decide) rfl (fun ls hl => ?_)
  have L2 : ∀ (nf : Nat) (xq2 : Int32) (mq1 : Mem) (H : Heap) (locs : List Loc) (ls : Array Slot), lv_has ls 4 [(0, .ref (G.2.1 + 0)), (1, .int a1), (2, .int a2), (3, .int xq2)] → Rp G mr0 N0 mq1 s H locs → F_T_tapeIsBelow_L2 a1 a2 nf xq2 mq1 = some (v, m') → W p l e (rmD 1) s mid args below meth c H locs 0 0 (MQ below (QR G mr0 N0 (some (.int (b2i v))) m') args s 0 0 (fun q => G.2.1 ≤ q)) (F0 mid 2 ls []) := by
    intro nf
    induction nf with
    | zero =>
      intro xq2 mq1 H locs ls hl hR hF
      rw [F_T_tapeIsBelow_L2] at hF
      cases hF
    | succ nf ihq4 =>
      intro xq2 mq1 H locs ls hl hR hF
      rw [F_T_tapeIsBelow_L2] at hF
      refine lv_iload_n hx hb (dk DX10_tapeIsBelow 2 rfl) rfl (lv_at hl 3 rfl) ?_
      refine lv_iload_n hx hb (dk DX10_tapeIsBelow 3 rfl) rfl (lv_at hl 1 rfl) ?_
      refine lv_icmp_ge (tgt := 32) hx hb (dk DX10_tapeIsBelow 4 rfl) (by decide) (fun c4 => ?_) (fun c4 => ?_)
      · have hF := if_t c4 hF
        refine lv_iconst (v := (1 : Int32)) hx hb (dk DX10_tapeIsBelow 18 rfl) (by decide) ?_
        cases hF
        exact r_zret C hrt hR (dk DX10_tapeIsBelow 19 rfl)
      · have hF := if_f c4 hF
        refine lv_iload_n hx hb (dk DX10_tapeIsBelow 5 rfl) rfl (lv_at hl 3 rfl) ?_
        refine lv_sipush (v := (400 : Int32)) hx hb (dk DX10_tapeIsBelow 6 rfl) (by decide) ?_
        refine lv_icmp_ge (tgt := 32) hx hb (dk DX10_tapeIsBelow 7 rfl) (by decide) (fun c11 => ?_) (fun c11 => ?_)
        · have hF := if_t c11 hF
          refine lv_iconst (v := (1 : Int32)) hx hb (dk DX10_tapeIsBelow 18 rfl) (by decide) ?_
          cases hF
          exact r_zret C hrt hR (dk DX10_tapeIsBelow 19 rfl)
        · have hF := if_f c11 hF
          refine lv_aload_n hx hb (dk DX10_tapeIsBelow 8 rfl) rfl (lv_at hl 0 rfl) ?_
          refine gX10_9 C hR ob0 rf0_0 (dk DX10_tapeIsBelow 9 rfl) ?_
          refine lv_iload_n hx hb (dk DX10_tapeIsBelow 10 rfl) rfl (lv_at hl 3 rfl) ?_
          obtain ⟨hq5, hF⟩ := ckB_ex hF
          refine r_iald C hR ob1 hq5 (dk DX10_tapeIsBelow 11 rfl) ?_
          refine lv_topi (fun xq6 exq6 => ?_)
          have hF := lt_at exq6 hF
          refine lv_iload_n hx hb (dk DX10_tapeIsBelow 12 rfl) rfl (lv_at hl 2 rfl) ?_
          refine lv_icmp_lt (tgt := 26) hx hb (dk DX10_tapeIsBelow 13 rfl) (by decide) (fun c21 => ?_) (fun c21 => ?_)
          · have hF := if_t c21 hF
            obtain ⟨xq7, exq7, hF⟩ := lt_ex hF
            refine lv_iinc (v := xq7) (lv' := [(3, .int xq7), (0, .ref (G.2.1 + 0)), (1, .int a1), (2, .int a2)]) hx hb (dk DX10_tapeIsBelow 16 rfl) hl (k := 3) rfl (by rw [exq7]; rfl) (by decide) rfl (fun ls hl => ?_)
            refine lv_goto (tgt := 2) hx hb (dk DX10_tapeIsBelow 17 rfl) (by decide) ?_
            exact ihq4 xq7 mq1 _ _ ls (lv_sub hl [1, 2, 3, 0] rfl) hR hF
          · have hF := if_f c21 hF
            refine lv_iconst (v := (0 : Int32)) hx hb (dk DX10_tapeIsBelow 14 rfl) (by decide) ?_
            cases hF
            exact r_zret C hrt hR (dk DX10_tapeIsBelow 15 rfl)
  exact L2 1000000 (0 : Int32) m0 _ _ ls (lv_sub hl [1, 2, 3, 0] rfl) hR hF
set_option maxHeartbeats 4000000 in
set_option maxRecDepth 100000 in
theorem C_T_tapeIsMornings (l : Launch) (hl0 : l.stackTraces = false) (G : GG) (a1 : Int32) (m0 : Mem) (v : Bool) (m' : Mem) (hF : F_T_tapeIsMornings a1 m0 = some (v, m')) : Ct l G mr0 N0 yX10_tapeIsMornings cX10_tapeIsMornings 3 (some .boolean) 2 [.ref (G.2.1 + 0), .int a1] m0 (some (.int (b2i v))) m' := by
  refine Ct_of hl0 (by decide) (Nat.le_of_ble_eq_true rfl) ?_
  intro p e s mid args below meth c ls C hrt hl hR
  have hx := C.1.1
  have hb := C.1.2.1
  have hl : lv_has ls 3 [(0, .ref (G.2.1 + 0)), (1, .int a1)] := hl
  unfold F_T_tapeIsMornings at hF
  refine lv_iload_n hx hb (dk DX10_tapeIsMornings 0 rfl) rfl (lv_at hl 1 rfl) ?_
  refine lv_iconst (v := (4 : Int32)) hx hb (dk DX10_tapeIsMornings 1 rfl) (by decide) ?_
  refine lv_irem hx hb (dk DX10_tapeIsMornings 2 rfl) (by decide) ?_
  refine lv_if_ne (tgt := 15) hx hb (dk DX10_tapeIsMornings 3 rfl) (by decide) (fun c3 => ?_) (fun c3 => ?_)
  · have hF := if_f c3 hF
    refine lv_iconst (v := (0 : Int32)) hx hb (dk DX10_tapeIsMornings 9 rfl) (by decide) ?_
    cases hF
    exact r_zret C hrt hR (dk DX10_tapeIsMornings 10 rfl)
  · have hF := if_t c3 hF
    refine lv_aload_n hx hb (dk DX10_tapeIsMornings 4 rfl) rfl (lv_at hl 0 rfl) ?_
    refine lv_iload_n hx hb (dk DX10_tapeIsMornings 5 rfl) rfl (lv_at hl 1 rfl) ?_
    refine lv_iconst (v := (4 : Int32)) hx hb (dk DX10_tapeIsMornings 6 rfl) (by decide) ?_
    obtain ⟨zq3, mq1, hzq2, hF⟩ := bnd_ex hF
    refine r_callVi (As := [.int a1, .int (4 : Int32)]) (rest := []) C hR (C_T_tapeIsBelow l hl0 G a1 (4 : Int32) m0 _ _ hzq2) (by decide) (by decide) ob0 rfl wX10_292 rfl rfl (Nat.le_of_ble_eq_true rfl) hl.1 ⟨Nat.zero_le _, Nat.zero_le _⟩ (dk DX10_tapeIsMornings 7 rfl) (fun H locs hR => ?_)
    refine z_ifne (tgt := 17) hx hb (dk DX10_tapeIsMornings 8 rfl) (by decide) (fun c12 => ?_) (fun c12 => ?_)
    · have hF := if_t c12 hF
      refine lv_iconst (v := (3 : Int32)) hx hb (dk DX10_tapeIsMornings 11 rfl) (by decide) ?_
      refine lv_istore_n (lv' := [(2, .int (3 : Int32)), (0, .ref (G.2.1 + 0)), (1, .int a1)]) hx hb (dk DX10_tapeIsMornings 12 rfl) rfl hl (by decide) rfl (fun ls hl => ?_)
      have L19 : ∀ (nf : Nat) (xq5 : Int32) (mq4 : Mem) (H : Heap) (locs : List Loc) (ls : Array Slot), lv_has ls 3 [(0, .ref (G.2.1 + 0)), (1, .int a1), (2, .int xq5)] → Rp G mr0 N0 mq4 s H locs → F_T_tapeIsMornings_L19 a1 nf xq5 mq4 = some (v, m') → W p l e (rmD 2) s mid args below meth c H locs 0 0 (MQ below (QR G mr0 N0 (some (.int (b2i v))) m') args s 0 0 (fun q => G.2.1 ≤ q)) (F0 mid 19 ls []) := by
        intro nf
        induction nf with
        | zero =>
          intro xq5 mq4 H locs ls hl hR hF
          rw [F_T_tapeIsMornings_L19] at hF
          cases hF
        | succ nf ihq7 =>
          intro xq5 mq4 H locs ls hl hR hF
          rw [F_T_tapeIsMornings_L19] at hF
          refine lv_iload_n hx hb (dk DX10_tapeIsMornings 13 rfl) rfl (lv_at hl 2 rfl) ?_
          refine lv_iload_n hx hb (dk DX10_tapeIsMornings 14 rfl) rfl (lv_at hl 1 rfl) ?_
          refine lv_icmp_ge (tgt := 49) hx hb (dk DX10_tapeIsMornings 15 rfl) (by decide) (fun c21 => ?_) (fun c21 => ?_)
          · have hF := if_t c21 hF
            refine lv_iconst (v := (1 : Int32)) hx hb (dk DX10_tapeIsMornings 29 rfl) (by decide) ?_
            cases hF
            exact r_zret C hrt hR (dk DX10_tapeIsMornings 30 rfl)
          · have hF := if_f c21 hF
            refine lv_iload_n hx hb (dk DX10_tapeIsMornings 16 rfl) rfl (lv_at hl 2 rfl) ?_
            refine lv_sipush (v := (400 : Int32)) hx hb (dk DX10_tapeIsMornings 17 rfl) (by decide) ?_
            refine lv_icmp_ge (tgt := 49) hx hb (dk DX10_tapeIsMornings 18 rfl) (by decide) (fun c28 => ?_) (fun c28 => ?_)
            · have hF := if_t c28 hF
              refine lv_iconst (v := (1 : Int32)) hx hb (dk DX10_tapeIsMornings 29 rfl) (by decide) ?_
              cases hF
              exact r_zret C hrt hR (dk DX10_tapeIsMornings 30 rfl)
            · have hF := if_f c28 hF
              refine lv_aload_n hx hb (dk DX10_tapeIsMornings 19 rfl) rfl (lv_at hl 0 rfl) ?_
              refine gX10_9 C hR ob0 rf0_0 (dk DX10_tapeIsMornings 20 rfl) ?_
              refine lv_iload_n hx hb (dk DX10_tapeIsMornings 21 rfl) rfl (lv_at hl 2 rfl) ?_
              obtain ⟨hq8, hF⟩ := ckB_ex hF
              refine r_iald C hR ob1 hq8 (dk DX10_tapeIsMornings 22 rfl) ?_
              refine lv_topi (fun xq9 exq9 => ?_)
              have hF := lt_at exq9 hF
              refine lv_iconst (v := (1 : Int32)) hx hb (dk DX10_tapeIsMornings 23 rfl) (by decide) ?_
              refine lv_icmp_le (tgt := 43) hx hb (dk DX10_tapeIsMornings 24 rfl) (by decide) (fun c38 => ?_) (fun c38 => ?_)
              · have hF := if_t c38 hF
                obtain ⟨xq10, exq10, hF⟩ := lt_ex hF
                refine lv_iinc (v := xq10) (lv' := [(2, .int xq10), (0, .ref (G.2.1 + 0)), (1, .int a1)]) hx hb (dk DX10_tapeIsMornings 27 rfl) hl (k := 2) rfl (by rw [exq10]; rfl) (by decide) rfl (fun ls hl => ?_)
                refine lv_goto (tgt := 19) hx hb (dk DX10_tapeIsMornings 28 rfl) (by decide) ?_
                exact ihq7 xq10 mq4 _ _ ls (lv_sub hl [1, 2, 0] rfl) hR hF
              · have hF := if_f c38 hF
                refine lv_iconst (v := (0 : Int32)) hx hb (dk DX10_tapeIsMornings 25 rfl) (by decide) ?_
                cases hF
                exact r_zret C hrt hR (dk DX10_tapeIsMornings 26 rfl)
      exact L19 1000000 (3 : Int32) mq1 _ _ ls (lv_sub hl [1, 2, 0] rfl) hR hF
    · have hF := if_f c12 hF
      refine lv_iconst (v := (0 : Int32)) hx hb (dk DX10_tapeIsMornings 9 rfl) (by decide) ?_
      cases hF
      exact r_zret C hrt hR (dk DX10_tapeIsMornings 10 rfl)
set_option maxHeartbeats 4000000 in
set_option maxRecDepth 100000 in
theorem C_Mo_signAt (l : Launch) (hl0 : l.stackTraces = false) (G : GG) (a1 : Int32) (a2 : Int32) (m0 : Mem) (v : Int32) (m' : Mem) (hF : F_Mo_signAt a1 a2 m0 = some (v, m')) : Ct l G mr0 N0 yX6_signAt cX6_signAt 4 (some .int) 1 [.ref (G.2.1 + 1), .int a1, .int a2] m0 (some (.int v)) m' := by
  refine Ct_of hl0 (by decide) (Nat.le_of_ble_eq_true rfl) ?_
  intro p e s mid args below meth c ls C hrt hl hR
  have hx := C.1.1
  have hb := C.1.2.1
  have hl : lv_has ls 4 [(0, .ref (G.2.1 + 1)), (1, .int a1), (2, .int a2)] := hl
  unfold F_Mo_signAt at hF
  refine lv_iload_n hx hb (dk DX6_signAt 0 rfl) rfl (lv_at hl 1 rfl) ?_
  refine lv_iload_n hx hb (dk DX6_signAt 1 rfl) rfl (lv_at hl 2 rfl) ?_
  refine lv_iadd hx hb (dk DX6_signAt 2 rfl) ?_
  refine lv_topi (fun xq1 exq1 => ?_)
  have hF := lt_at exq1 hF
  refine lv_istore_n (lv' := [(3, .int xq1), (0, .ref (G.2.1 + 1)), (1, .int a1), (2, .int a2)]) hx hb (dk DX6_signAt 3 rfl) rfl hl (by decide) rfl (fun ls hl => ?_)
  refine lv_iload_n hx hb (dk DX6_signAt 4 rfl) rfl (lv_at hl 0 rfl) ?_
  refine lv_if_lt (tgt := 14) hx hb (dk DX6_signAt 5 rfl) (by decide) (fun c5 => ?_) (fun c5 => ?_)
  · have hF := if_t c5 hF
    refine lv_iconst (v := (0 : Int32)) hx hb (dk DX6_signAt 10 rfl) (by decide) ?_
    refine lv_goto (tgt := 21) hx hb (dk DX6_signAt 11 rfl) (by decide) ?_
    cases hF
    exact r_iret C hrt hR (dk DX6_signAt 15 rfl)
  · have hF := if_f c5 hF
    refine lv_iload_n hx hb (dk DX6_signAt 6 rfl) rfl (lv_at hl 0 rfl) ?_
    refine lv_aload_n hx hb (dk DX6_signAt 7 rfl) rfl (lv_at hl 1 rfl) ?_
    refine r_aleni (v := (400 : Int32)) C hR ob1 rfl (dk DX6_signAt 8 rfl) ?_
    refine lv_icmp_lt (tgt := 18) hx hb (dk DX6_signAt 9 rfl) (by decide) (fun c11 => ?_) (fun c11 => ?_)
    · have hF := if_t c11 hF
      refine lv_aload_n hx hb (dk DX6_signAt 12 rfl) rfl (lv_at hl 1 rfl) ?_
      refine lv_iload_n hx hb (dk DX6_signAt 13 rfl) rfl (lv_at hl 0 rfl) ?_
      obtain ⟨hq2, hF⟩ := ckB_ex hF
      refine r_iald C hR ob1 hq2 (dk DX6_signAt 14 rfl) ?_
      refine lv_topi (fun xq3 exq3 => ?_)
      have hF := lt_at exq3 hF
      cases hF
      exact r_iret C hrt hR (dk DX6_signAt 15 rfl)
    · have hF := if_f c11 hF
      refine lv_iconst (v := (0 : Int32)) hx hb (dk DX6_signAt 10 rfl) (by decide) ?_
      refine lv_goto (tgt := 21) hx hb (dk DX6_signAt 11 rfl) (by decide) ?_
      cases hF
      exact r_iret C hrt hR (dk DX6_signAt 15 rfl)
set_option maxHeartbeats 4000000 in
set_option maxRecDepth 100000 in
theorem C_Mo_sort (l : Launch) (hl0 : l.stackTraces = false) (G : GG) (a2 : Int32) (a3 : Int32) (a4 : Int32) (m0 : Mem) (v : Unit) (m' : Mem) (hF : F_Mo_sort a2 a3 a4 m0 = some (v, m')) : Ct l G mr0 N0 yX6_sort cX6_sort 7 none 2 [.ref (G.2.1 + 61), .ref (G.2.1 + 1), .int a2, .int a3, .int a4] m0 none m' := by
  refine Ct_of hl0 (by decide) (Nat.le_of_ble_eq_true rfl) ?_
  intro p e s mid args below meth c ls C hrt hl hR
  have hx := C.1.1
  have hb := C.1.2.1
  have hl : lv_has ls 7 [(0, .ref (G.2.1 + 61)), (1, .ref (G.2.1 + 1)), (2, .int a2), (3, .int a3), (4, .int a4)] := hl
  unfold F_Mo_sort at hF
  refine lv_iconst (v := (0 : Int32)) hx hb (dk DX6_sort 0 rfl) (by decide) ?_
  refine lv_istore (lv' := [(5, .int (0 : Int32)), (0, .ref (G.2.1 + 61)), (1, .ref (G.2.1 + 1)), (2, .int a2), (3, .int a3), (4, .int a4)]) hx hb (dk DX6_sort 1 rfl) hl (by decide) rfl (fun ls hl => ?_)
  obtain ⟨k32_1, ek32_1, hF⟩ := lt_ex hF
  have J32 : ∀ (mq1 : Mem) (H : Heap) (locs : List Loc) (ls : Array Slot), lv_has ls 7 [(0, .ref (G.2.1 + 61)), (1, .ref (G.2.1 + 1)), (2, .int a2), (3, .int a3), (4, .int a4)] → Rp G mr0 N0 mq1 s H locs → k32_1  mq1 = some (v, m') → W p l e (rmD 2) s mid args below meth c H locs 0 0 (MQ below (QR G mr0 N0 none m') args s 0 0 (fun q => G.2.1 ≤ q)) (F0 mid 32 ls []) := by
    intro  mq1 H locs ls hl hR hF
    rw [ek32_1] at hF
    refine lv_iconst (v := (0 : Int32)) hx hb (dk DX6_sort 17 rfl) (by decide) ?_
    refine lv_istore (lv' := [(5, .int (0 : Int32)), (0, .ref (G.2.1 + 61)), (1, .ref (G.2.1 + 1)), (2, .int a2), (3, .int a3), (4, .int a4)]) hx hb (dk DX6_sort 18 rfl) hl (by decide) rfl (fun ls hl => ?_)
    have L35 : ∀ (nf : Nat) (xq3 : Int32) (mq2 : Mem) (H : Heap) (locs : List Loc) (ls : Array Slot), lv_has ls 7 [(0, .ref (G.2.1 + 61)), (1, .ref (G.2.1 + 1)), (2, .int a2), (3, .int a3), (4, .int a4), (5, .int xq3)] → Rp G mr0 N0 mq2 s H locs → F_Mo_sort_L35 a2 a3 a4 nf xq3 mq2 = some (v, m') → W p l e (rmD 2) s mid args below meth c H locs 0 0 (MQ below (QR G mr0 N0 none m') args s 0 0 (fun q => G.2.1 ≤ q)) (F0 mid 35 ls []) := by
      intro nf
      induction nf with
      | zero =>
        intro xq3 mq2 H locs ls hl hR hF
        rw [F_Mo_sort_L35] at hF
        cases hF
      | succ nf ihq5 =>
        intro xq3 mq2 H locs ls hl hR hF
        rw [F_Mo_sort_L35] at hF
        refine lv_iload hx hb (dk DX6_sort 19 rfl) (lv_at hl 5 rfl) ?_
        refine lv_iconst (v := (3 : Int32)) hx hb (dk DX6_sort 20 rfl) (by decide) ?_
        refine lv_iadd hx hb (dk DX6_sort 21 rfl) ?_
        refine lv_iload_n hx hb (dk DX6_sort 22 rfl) rfl (lv_at hl 2 rfl) ?_
        refine lv_icmp_ge (tgt := 150) hx hb (dk DX6_sort 23 rfl) (by decide) (fun c40 => ?_) (fun c40 => ?_)
        · have hF := if_t c40 hF
          cases hF
          exact r_vret C hrt hR (dk DX6_sort 88 rfl)
        · have hF := if_f c40 hF
          refine lv_iload hx hb (dk DX6_sort 24 rfl) (lv_at hl 5 rfl) ?_
          refine lv_iconst (v := (3 : Int32)) hx hb (dk DX6_sort 25 rfl) (by decide) ?_
          refine lv_iadd hx hb (dk DX6_sort 26 rfl) ?_
          refine lv_aload_n hx hb (dk DX6_sort 27 rfl) rfl (lv_at hl 1 rfl) ?_
          refine r_aleni (v := (400 : Int32)) C hR ob1 rfl (dk DX6_sort 28 rfl) ?_
          refine lv_icmp_ge (tgt := 150) hx hb (dk DX6_sort 29 rfl) (by decide) (fun c49 => ?_) (fun c49 => ?_)
          · have hF := if_t c49 hF
            cases hF
            exact r_vret C hrt hR (dk DX6_sort 88 rfl)
          · have hF := if_f c49 hF
            refine lv_aload_n hx hb (dk DX6_sort 30 rfl) rfl (lv_at hl 1 rfl) ?_
            refine lv_iload hx hb (dk DX6_sort 31 rfl) (lv_at hl 5 rfl) ?_
            refine lv_iload_n hx hb (dk DX6_sort 32 rfl) rfl (lv_at hl 3 rfl) ?_
            obtain ⟨xq8, mq6, hzq7, hF⟩ := bnd_ex hF
            refine r_callSi (As := [.ref (G.2.1 + 1), .int xq3, .int a3]) (rest := []) C hR (C_Mo_signAt l hl0 G xq3 a3 mq2 _ _ hzq7) (by decide) (by decide) wX6_16 rfl rfl (Nat.le_of_ble_eq_true rfl) hl.1 ⟨Nat.zero_le _, Nat.zero_le _⟩ (dk DX6_sort 33 rfl) (fun H locs hR => ?_)
            refine lv_iload_n hx hb (dk DX6_sort 34 rfl) rfl (lv_at hl 3 rfl) ?_
            refine lv_iload hx hb (dk DX6_sort 35 rfl) (lv_at hl 4 rfl) ?_
            obtain ⟨k79_10, ek79_10, hF⟩ := lt_ex hF
            have J79 : ∀ (xq10 : Int32) (mq9 : Mem) (H : Heap) (locs : List Loc) (ls : Array Slot), lv_has ls 7 [(0, .ref (G.2.1 + 61)), (1, .ref (G.2.1 + 1)), (2, .int a2), (3, .int a3), (4, .int a4), (5, .int xq3)] → Rp G mr0 N0 mq9 s H locs → k79_10 xq10 mq9 = some (v, m') → W p l e (rmD 2) s mid args below meth c H locs 0 0 (MQ below (QR G mr0 N0 none m') args s 0 0 (fun q => G.2.1 ≤ q)) (F0 mid 79 ls [.int xq10, .int xq8]) := by
              intro xq10 mq9 H locs ls hl hR hF
              rw [ek79_10] at hF
              refine lv_iadd hx hb (dk DX6_sort 45 rfl) ?_
              refine lv_topi (fun xq11 exq11 => ?_)
              have hF := lt_at exq11 hF
              refine lv_istore (lv' := [(6, .int xq11), (0, .ref (G.2.1 + 61)), (1, .ref (G.2.1 + 1)), (2, .int a2), (3, .int a3), (4, .int a4), (5, .int xq3)]) hx hb (dk DX6_sort 46 rfl) hl (by decide) rfl (fun ls hl => ?_)
              refine lv_iload hx hb (dk DX6_sort 47 rfl) (lv_at hl 0 rfl) ?_
              obtain ⟨k144_12, ek144_12, hF⟩ := lt_ex hF
              have J144 : ∀ (mq12 : Mem) (H : Heap) (locs : List Loc) (ls : Array Slot), lv_has ls 7 [(0, .ref (G.2.1 + 61)), (1, .ref (G.2.1 + 1)), (2, .int a2), (3, .int a3), (4, .int a4), (5, .int xq3)] → Rp G mr0 N0 mq12 s H locs → k144_12  mq12 = some (v, m') → W p l e (rmD 2) s mid args below meth c H locs 0 0 (MQ below (QR G mr0 N0 none m') args s 0 0 (fun q => G.2.1 ≤ q)) (F0 mid 144 ls []) := by
                intro  mq12 H locs ls hl hR hF
                rw [ek144_12] at hF
                obtain ⟨xq13, exq13, hF⟩ := lt_ex hF
                refine lv_iinc (v := xq13) (lv' := [(5, .int xq13), (0, .ref (G.2.1 + 61)), (1, .ref (G.2.1 + 1)), (2, .int a2), (3, .int a3), (4, .int a4)]) hx hb (dk DX6_sort 86 rfl) hl (k := 5) rfl (by rw [exq13]; rfl) (by decide) rfl (fun ls hl => ?_)
                refine lv_goto (tgt := 35) hx hb (dk DX6_sort 87 rfl) (by decide) ?_
                exact ihq5 xq13 mq12 _ _ ls (lv_sub hl [1, 2, 3, 4, 5, 0] rfl) hR hF
              refine lv_if_lt (tgt := 144) hx hb (dk DX6_sort 48 rfl) (by decide) (fun c84 => ?_) (fun c84 => ?_)
              · have hF := if_t c84 hF
                exact J144 mq9 _ _ ls (lv_sub hl [1, 2, 3, 4, 5, 6] rfl) hR hF
              · have hF := if_f c84 hF
                refine lv_iload hx hb (dk DX6_sort 49 rfl) (lv_at hl 0 rfl) ?_
                refine lv_bipush (v := (16 : Int32)) hx hb (dk DX6_sort 50 rfl) (by decide) ?_
                refine lv_icmp_ge (tgt := 144) hx hb (dk DX6_sort 51 rfl) (by decide) (fun c91 => ?_) (fun c91 => ?_)
                · have hF := if_t c91 hF
                  exact J144 mq9 _ _ ls (lv_sub hl [1, 2, 3, 4, 5, 6] rfl) hR hF
                · have hF := if_f c91 hF
                  refine lv_aload_n hx hb (dk DX6_sort 52 rfl) rfl (lv_at hl 1 rfl) ?_
                  refine gX6_9 C hR ob61 rf61_0 (dk DX6_sort 53 rfl) ?_
                  refine lv_iload hx hb (dk DX6_sort 54 rfl) (lv_at hl 0 rfl) ?_
                  refine lv_dup2_11 hx hb (dk DX6_sort 55 rfl) rfl rfl ?_
                  obtain ⟨hq14, hF⟩ := ckB_ex hF
                  refine r_iald C hR ob62 hq14 (dk DX6_sort 56 rfl) ?_
                  refine lv_topi (fun xq15 exq15 => ?_)
                  have hF := lt_at exq15 hF
                  refine lv_aload_n hx hb (dk DX6_sort 57 rfl) rfl (lv_at hl 2 rfl) ?_
                  refine lv_iload hx hb (dk DX6_sort 58 rfl) (lv_at hl 6 rfl) ?_
                  refine lv_iconst (v := (3 : Int32)) hx hb (dk DX6_sort 59 rfl) (by decide) ?_
                  refine lv_iadd hx hb (dk DX6_sort 60 rfl) ?_
                  obtain ⟨hq16, hF⟩ := ckB_ex hF
                  refine r_iald C hR ob1 hq16 (dk DX6_sort 61 rfl) ?_
                  refine lv_topi (fun xq17 exq17 => ?_)
                  have hF := lt_at exq17 hF
                  refine lv_iconst (v := (1 : Int32)) hx hb (dk DX6_sort 62 rfl) (by decide) ?_
                  obtain ⟨k117_19, ek117_19, hF⟩ := lt_ex hF
                  have J117 : ∀ (zq19 : Bool) (mq18 : Mem) (H : Heap) (locs : List Loc) (ls : Array Slot), lv_has ls 7 [(0, .ref (G.2.1 + 61)), (1, .ref (G.2.1 + 1)), (2, .int a2), (3, .int a3), (4, .int a4), (5, .int xq3), (6, .int xq11)] → Rp G mr0 N0 mq18 s H locs → k117_19 zq19 mq18 = some (v, m') → W p l e (rmD 2) s mid args below meth c H locs 0 0 (MQ below (QR G mr0 N0 none m') args s 0 0 (fun q => G.2.1 ≤ q)) (F0 mid 117 ls [.int (b2i zq19), .int xq15, .int xq11, .ref (G.2.1 + 62)]) := by
                    intro zq19 mq18 H locs ls hl hR hF
                    rw [ek117_19] at hF
                    refine lv_iadd hx hb (dk DX6_sort 67 rfl) ?_
                    obtain ⟨hq21, hF⟩ := ckB_ex hF
                    refine r_iast C hR ob62 hq21 (dk DX6_sort 68 rfl) (fun H locs hR => ?_)
                    obtain ⟨mq20, emq20, hF⟩ := lt_ex hF
                    have hR := Rp_at emq20 hR
                    refine lv_aload_n hx hb (dk DX6_sort 69 rfl) rfl (lv_at hl 0 rfl) ?_
                    refine gX6_13 C hR ob61 rf61_1 (dk DX6_sort 70 rfl) ?_
                    refine lv_iload hx hb (dk DX6_sort 71 rfl) (lv_at hl 6 rfl) ?_
                    refine lv_dup2_11 hx hb (dk DX6_sort 72 rfl) rfl rfl ?_
                    obtain ⟨hq22, hF⟩ := ckB_ex hF
                    refine r_iald C hR ob63 hq22 (dk DX6_sort 73 rfl) ?_
                    refine lv_topi (fun xq23 exq23 => ?_)
                    have hF := lt_at exq23 hF
                    refine lv_aload_n hx hb (dk DX6_sort 74 rfl) rfl (lv_at hl 1 rfl) ?_
                    refine lv_iload hx hb (dk DX6_sort 75 rfl) (lv_at hl 5 rfl) ?_
                    refine lv_iconst (v := (3 : Int32)) hx hb (dk DX6_sort 76 rfl) (by decide) ?_
                    refine lv_iadd hx hb (dk DX6_sort 77 rfl) ?_
                    obtain ⟨hq24, hF⟩ := ckB_ex hF
                    refine r_iald C hR ob1 hq24 (dk DX6_sort 78 rfl) ?_
                    refine lv_topi (fun xq25 exq25 => ?_)
                    have hF := lt_at exq25 hF
                    refine lv_iconst (v := (1 : Int32)) hx hb (dk DX6_sort 79 rfl) (by decide) ?_
                    obtain ⟨k142_27, ek142_27, hF⟩ := lt_ex hF
                    have J142 : ∀ (zq27 : Bool) (mq26 : Mem) (H : Heap) (locs : List Loc) (ls : Array Slot), lv_has ls 7 [(0, .ref (G.2.1 + 61)), (1, .ref (G.2.1 + 1)), (2, .int a2), (3, .int a3), (4, .int a4), (5, .int xq3)] → Rp G mr0 N0 mq26 s H locs → k142_27 zq27 mq26 = some (v, m') → W p l e (rmD 2) s mid args below meth c H locs 0 0 (MQ below (QR G mr0 N0 none m') args s 0 0 (fun q => G.2.1 ≤ q)) (F0 mid 142 ls [.int (b2i zq27), .int xq23, .int xq11, .ref (G.2.1 + 63)]) := by
                      intro zq27 mq26 H locs ls hl hR hF
                      rw [ek142_27] at hF
                      refine lv_iadd hx hb (dk DX6_sort 84 rfl) ?_
                      obtain ⟨hq29, hF⟩ := ckB_ex hF
                      refine r_iast C hR ob63 hq29 (dk DX6_sort 85 rfl) (fun H locs hR => ?_)
                      obtain ⟨mq28, emq28, hF⟩ := lt_ex hF
                      have hR := Rp_at emq28 hR
                      exact J144 mq28 _ _ ls (lv_sub hl [0, 1, 2, 3, 4, 5] rfl) hR hF
                    refine lv_icmp_ne (tgt := 141) hx hb (dk DX6_sort 80 rfl) (by decide) (fun c134 => ?_) (fun c134 => ?_)
                    · have hF := if_f c134 hF
                      refine lv_iconst (v := (1 : Int32)) hx hb (dk DX6_sort 83 rfl) (by decide) ?_
                      exact J142 true mq20 _ _ ls (lv_sub hl [0, 1, 2, 3, 4, 5] rfl) hR hF
                    · have hF := if_t c134 hF
                      refine lv_iconst (v := (0 : Int32)) hx hb (dk DX6_sort 81 rfl) (by decide) ?_
                      refine lv_goto (tgt := 142) hx hb (dk DX6_sort 82 rfl) (by decide) ?_
                      exact J142 false mq20 _ _ ls (lv_sub hl [0, 1, 2, 3, 4, 5] rfl) hR hF
                  refine lv_icmp_ne (tgt := 116) hx hb (dk DX6_sort 63 rfl) (by decide) (fun c109 => ?_) (fun c109 => ?_)
                  · have hF := if_f c109 hF
                    refine lv_iconst (v := (0 : Int32)) hx hb (dk DX6_sort 66 rfl) (by decide) ?_
                    exact J117 false mq9 _ _ ls (lv_sub hl [1, 2, 3, 4, 5, 6, 0] rfl) hR hF
                  · have hF := if_t c109 hF
                    refine lv_iconst (v := (1 : Int32)) hx hb (dk DX6_sort 64 rfl) (by decide) ?_
                    refine lv_goto (tgt := 117) hx hb (dk DX6_sort 65 rfl) (by decide) ?_
                    exact J117 true mq9 _ _ ls (lv_sub hl [1, 2, 3, 4, 5, 6, 0] rfl) hR hF
            refine lv_icmp_ne (tgt := 69) hx hb (dk DX6_sort 36 rfl) (by decide) (fun c62 => ?_) (fun c62 => ?_)
            · have hF := if_f c62 hF
              refine lv_iconst (v := (4 : Int32)) hx hb (dk DX6_sort 39 rfl) (by decide) ?_
              refine lv_aload_n hx hb (dk DX6_sort 40 rfl) rfl (lv_at hl 1 rfl) ?_
              refine lv_iload hx hb (dk DX6_sort 41 rfl) (lv_at hl 5 rfl) ?_
              refine lv_iload hx hb (dk DX6_sort 42 rfl) (lv_at hl 4 rfl) ?_
              obtain ⟨xq32, mq30, hzq31, hF⟩ := bnd_ex hF
              refine r_callSi (As := [.ref (G.2.1 + 1), .int xq3, .int a4]) (rest := [.int (4 : Int32), .int xq8]) C hR (C_Mo_signAt l hl0 G xq3 a4 mq6 _ _ hzq31) (by decide) (by decide) wX6_16 rfl rfl (Nat.le_of_ble_eq_true rfl) hl.1 ⟨Nat.zero_le _, Nat.zero_le _⟩ (dk DX6_sort 43 rfl) (fun H locs hR => ?_)
              refine lv_imul hx hb (dk DX6_sort 44 rfl) ?_
              exact J79 ((4 : Int32) * xq32) mq30 _ _ ls (lv_sub hl [0, 1, 2, 3, 4, 5] rfl) hR hF
            · have hF := if_t c62 hF
              refine lv_iconst (v := (0 : Int32)) hx hb (dk DX6_sort 37 rfl) (by decide) ?_
              refine lv_goto (tgt := 79) hx hb (dk DX6_sort 38 rfl) (by decide) ?_
              exact J79 (0 : Int32) mq6 _ _ ls (lv_sub hl [0, 1, 2, 3, 4, 5] rfl) hR hF
    exact L35 1000000 (0 : Int32) mq1 _ _ ls (lv_sub hl [1, 2, 3, 4, 5, 0] rfl) hR hF
  have L3 : ∀ (nf : Nat) (xq34 : Int32) (mq33 : Mem) (H : Heap) (locs : List Loc) (ls : Array Slot), lv_has ls 7 [(0, .ref (G.2.1 + 61)), (1, .ref (G.2.1 + 1)), (2, .int a2), (3, .int a3), (4, .int a4), (5, .int xq34)] → Rp G mr0 N0 mq33 s H locs → F_Mo_sort_L3 k32_1 nf xq34 mq33 = some (v, m') → W p l e (rmD 2) s mid args below meth c H locs 0 0 (MQ below (QR G mr0 N0 none m') args s 0 0 (fun q => G.2.1 ≤ q)) (F0 mid 3 ls []) := by
    intro nf
    induction nf with
    | zero =>
      intro xq34 mq33 H locs ls hl hR hF
      rw [F_Mo_sort_L3] at hF
      cases hF
    | succ nf ihq36 =>
      intro xq34 mq33 H locs ls hl hR hF
      rw [F_Mo_sort_L3] at hF
      refine lv_iload hx hb (dk DX6_sort 2 rfl) (lv_at hl 5 rfl) ?_
      refine lv_bipush (v := (16 : Int32)) hx hb (dk DX6_sort 3 rfl) (by decide) ?_
      refine lv_icmp_ge (tgt := 32) hx hb (dk DX6_sort 4 rfl) (by decide) (fun c7 => ?_) (fun c7 => ?_)
      · have hF := if_t c7 hF
        exact J32 mq33 _ _ ls (lv_sub hl [0, 1, 2, 3, 4] rfl) hR hF
      · have hF := if_f c7 hF
        refine lv_aload_n hx hb (dk DX6_sort 5 rfl) rfl (lv_at hl 0 rfl) ?_
        refine gX6_9 C hR ob61 rf61_0 (dk DX6_sort 6 rfl) ?_
        refine lv_iload hx hb (dk DX6_sort 7 rfl) (lv_at hl 5 rfl) ?_
        refine lv_iconst (v := (0 : Int32)) hx hb (dk DX6_sort 8 rfl) (by decide) ?_
        obtain ⟨hq38, hF⟩ := ckB_ex hF
        refine r_iast C hR ob62 hq38 (dk DX6_sort 9 rfl) (fun H locs hR => ?_)
        obtain ⟨mq37, emq37, hF⟩ := lt_ex hF
        have hR := Rp_at emq37 hR
        refine lv_aload_n hx hb (dk DX6_sort 10 rfl) rfl (lv_at hl 0 rfl) ?_
        refine gX6_13 C hR ob61 rf61_1 (dk DX6_sort 11 rfl) ?_
        refine lv_iload hx hb (dk DX6_sort 12 rfl) (lv_at hl 5 rfl) ?_
        refine lv_iconst (v := (0 : Int32)) hx hb (dk DX6_sort 13 rfl) (by decide) ?_
        obtain ⟨hq40, hF⟩ := ckB_ex hF
        refine r_iast C hR ob63 hq40 (dk DX6_sort 14 rfl) (fun H locs hR => ?_)
        obtain ⟨mq39, emq39, hF⟩ := lt_ex hF
        have hR := Rp_at emq39 hR
        obtain ⟨xq41, exq41, hF⟩ := lt_ex hF
        refine lv_iinc (v := xq41) (lv' := [(5, .int xq41), (0, .ref (G.2.1 + 61)), (1, .ref (G.2.1 + 1)), (2, .int a2), (3, .int a3), (4, .int a4)]) hx hb (dk DX6_sort 15 rfl) hl (k := 5) rfl (by rw [exq41]; rfl) (by decide) rfl (fun ls hl => ?_)
        refine lv_goto (tgt := 3) hx hb (dk DX6_sort 16 rfl) (by decide) ?_
        exact ihq36 xq41 mq39 _ _ ls (lv_sub hl [1, 2, 3, 4, 5, 0] rfl) hR hF
  exact L3 1000000 (0 : Int32) m0 _ _ ls (lv_sub hl [1, 2, 3, 4, 5, 0] rfl) hR hF
