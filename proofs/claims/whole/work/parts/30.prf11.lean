set_option maxHeartbeats 4000000 in
set_option maxRecDepth 100000 in
theorem C_M_count (l : Launch) (hl0 : l.stackTraces = false) (G : GG) (a1 : Int32) (m0 : Mem) (v : Int32) (m' : Mem) (hF : F_M_count a1 m0 = some (v, m')) : Ct l G mr0 N0 yX11_count cX11_count 2 (some .int) 2 [.ref (G.2.1 + 78), .int a1] m0 (some (.int v)) m' := by
  refine Ct_of hl0 (by decide) (Nat.le_of_ble_eq_true rfl) ?_
  intro p e s mid args below meth c ls C hrt hl hR
  have hx := C.1.1
  have hb := C.1.2.1
  have hl : lv_has ls 2 [(0, .ref (G.2.1 + 78)), (1, .int a1)] := hl
  unfold F_M_count at hF
  refine lv_aload_n hx hb (dk DX11_count 0 rfl) rfl (lv_at hl 0 rfl) ?_
  refine lv_iconst (v := (0 : Int32)) hx hb (dk DX11_count 1 rfl) (by decide) ?_
  refine pX11_3 (x := (0 : Int32)) C hR ob78 (dk DX11_count 2 rfl) (fun H locs hR => ?_)
  obtain ⟨mq1, emq1, hF⟩ := lt_ex hF
  have hR := Rp_at emq1 hR
  refine lv_iload_n hx hb (dk DX11_count 3 rfl) rfl (lv_at hl 1 rfl) ?_
  by_cases d4 : a1 = (4 : Int32)
  · have hF := if_t d4 hF
    refine lv_lookup (tgt := 40) hx hb (dk DX11_count 4 rfl) (by decide) (by first | (rw [d4]; done) | (rw [d4]; rfl)) (by decide) ?_
    refine lv_aload_n hx hb (dk DX11_count 5 rfl) rfl (lv_at hl 0 rfl) ?_
    refine gX11_13 C hR ob78 rf78_1 (dk DX11_count 6 rfl) ?_
    refine lv_iconst (v := (4 : Int32)) hx hb (dk DX11_count 7 rfl) (by decide) ?_
    refine r_iald C hR ob79 rfl (dk DX11_count 8 rfl) ?_
    refine lv_iconst (v := (1 : Int32)) hx hb (dk DX11_count 9 rfl) (by decide) ?_
    refine lv_icmp_ne (tgt := 61) hx hb (dk DX11_count 10 rfl) (by decide) (fun c47 => ?_) (fun c47 => ?_)
    · have hF := if_f c47 hF
      refine lv_iconst (v := (-1 : Int32)) hx hb (dk DX11_count 16 rfl) (by decide) ?_
      cases hF
      exact r_iret C hrt hR (dk DX11_count 17 rfl)
    · have hF := if_t c47 hF
      refine lv_aload_n hx hb (dk DX11_count 11 rfl) rfl (lv_at hl 0 rfl) ?_
      refine gX11_13 C hR ob78 rf78_1 (dk DX11_count 12 rfl) ?_
      refine lv_sipush (v := (298 : Int32)) hx hb (dk DX11_count 13 rfl) (by decide) ?_
      refine r_iald C hR ob79 rfl (dk DX11_count 14 rfl) ?_
      refine lv_goto (tgt := 62) hx hb (dk DX11_count 15 rfl) (by decide) ?_
      cases hF
      exact r_iret C hrt hR (dk DX11_count 17 rfl)
  · have hF := if_f d4 hF
    by_cases d9 : a1 = (9 : Int32)
    · have hF := if_t d9 hF
      refine lv_lookup (tgt := 63) hx hb (dk DX11_count 4 rfl) (by decide) (by first | (rw [d9]; done) | (rw [d9]; rfl)) (by decide) ?_
      refine lv_aload_n hx hb (dk DX11_count 18 rfl) rfl (lv_at hl 0 rfl) ?_
      obtain ⟨xq4, mq2, hzq3, hF⟩ := bnd_ex hF
      refine r_callVi (As := []) (rest := []) C hR (C_M_size l hl0 G mq1 _ _ hzq3) (by decide) (by decide) ob78 rfl wX11_63 rfl rfl (Nat.le_of_ble_eq_true rfl) hl.1 ⟨Nat.zero_le _, Nat.zero_le _⟩ (dk DX11_count 19 rfl) (fun H locs hR => ?_)
      refine lv_aload_n hx hb (dk DX11_count 20 rfl) rfl (lv_at hl 0 rfl) ?_
      obtain ⟨xq7, mq5, hzq6, hF⟩ := bnd_ex hF
      refine r_callVi (As := []) (rest := [.int xq4]) C hR (C_M_played l hl0 G mq2 _ _ hzq6) (by decide) (by decide) ob78 rfl wX11_288 rfl rfl (Nat.le_of_ble_eq_true rfl) hl.1 ⟨Nat.zero_le _, Nat.zero_le _⟩ (dk DX11_count 21 rfl) (fun H locs hR => ?_)
      refine lv_isub hx hb (dk DX11_count 22 rfl) ?_
      cases hF
      exact r_iret C hrt hR (dk DX11_count 23 rfl)
    · have hF := if_f d9 hF
      by_cases d10 : a1 = (10 : Int32)
      · have hF := if_t d10 hF
        refine lv_lookup (tgt := 73) hx hb (dk DX11_count 4 rfl) (by decide) (by first | (rw [d10]; done) | (rw [d10]; rfl)) (by decide) ?_
        refine lv_aload_n hx hb (dk DX11_count 24 rfl) rfl (lv_at hl 0 rfl) ?_
        refine gX11_60 C hR ob78 (dk DX11_count 25 rfl) ?_
        cases hF
        exact r_iret C hrt hR (dk DX11_count 26 rfl)
      · have hF := if_f d10 hF
        have n4 := i32_ne d4 (z := 4) rfl
        have n9 := i32_ne d9 (z := 9) rfl
        have n10 := i32_ne d10 (z := 10) rfl
        refine lv_lookup (tgt := 78) hx hb (dk DX11_count 4 rfl) (by decide) (lk_out (by simp only [List.all_cons, List.all_nil, Bool.and_true, Bool.and_eq_true, decide_eq_true_eq]; omega)) (by decide) ?_
        refine lv_iload_n hx hb (dk DX11_count 27 rfl) rfl (lv_at hl 1 rfl) ?_
        refine lv_iconst (v := (0 : Int32)) hx hb (dk DX11_count 28 rfl) (by decide) ?_
        refine lv_bipush (v := (8 : Int32)) hx hb (dk DX11_count 29 rfl) (by decide) ?_
        obtain ⟨zq10, mq8, hzq9, hF⟩ := bnd_ex hF
        refine r_callSi (As := [.int a1, .int (0 : Int32), .int (8 : Int32)]) (rest := []) C hR (C_M_in l hl0 G a1 (0 : Int32) (8 : Int32) mq1 _ _ hzq9) (by decide) (by decide) wX11_67 rfl rfl (Nat.le_of_ble_eq_true rfl) hl.1 ⟨Nat.zero_le _, Nat.zero_le _⟩ (dk DX11_count 30 rfl) (fun H locs hR => ?_)
        refine z_ifeq (tgt := 97) hx hb (dk DX11_count 31 rfl) (by decide) (fun c85 => ?_) (fun c85 => ?_)
        · have hF := if_f c85 hF
          refine lv_iconst (v := (-1 : Int32)) hx hb (dk DX11_count 37 rfl) (by decide) ?_
          cases hF
          exact r_iret C hrt hR (dk DX11_count 38 rfl)
        · have hF := if_t c85 hF
          refine lv_aload_n hx hb (dk DX11_count 32 rfl) rfl (lv_at hl 0 rfl) ?_
          refine gX11_13 C hR ob78 rf78_1 (dk DX11_count 33 rfl) ?_
          refine lv_iload_n hx hb (dk DX11_count 34 rfl) rfl (lv_at hl 1 rfl) ?_
          obtain ⟨hq11, hF⟩ := ckB_ex hF
          refine r_iald C hR ob79 hq11 (dk DX11_count 35 rfl) ?_
          refine lv_topi (fun xq12 exq12 => ?_)
          have hF := lt_at exq12 hF
          refine lv_goto (tgt := 98) hx hb (dk DX11_count 36 rfl) (by decide) ?_
          cases hF
          exact r_iret C hrt hR (dk DX11_count 38 rfl)
set_option maxHeartbeats 4000000 in
set_option maxRecDepth 100000 in
theorem C_M_declare (l : Launch) (hl0 : l.stackTraces = false) (G : GG) (m0 : Mem) (v : Int32) (m' : Mem) (hF : F_M_declare m0 = some (v, m')) : Ct l G mr0 N0 yX11_declare cX11_declare 2 (some .int) 4 [.ref (G.2.1 + 78)] m0 (some (.int v)) m' := by
  refine Ct_of hl0 (by decide) (Nat.le_of_ble_eq_true rfl) ?_
  intro p e s mid args below meth c ls C hrt hl hR
  have hx := C.1.1
  have hb := C.1.2.1
  have hl : lv_has ls 2 [(0, .ref (G.2.1 + 78))] := hl
  unfold F_M_declare at hF
  refine lv_aload_n hx hb (dk DX11_declare 0 rfl) rfl (lv_at hl 0 rfl) ?_
  refine lv_iconst (v := (0 : Int32)) hx hb (dk DX11_declare 1 rfl) (by decide) ?_
  refine pX11_3 (x := (0 : Int32)) C hR ob78 (dk DX11_declare 2 rfl) (fun H locs hR => ?_)
  obtain ⟨mq1, emq1, hF⟩ := lt_ex hF
  have hR := Rp_at emq1 hR
  refine lv_aload_n hx hb (dk DX11_declare 3 rfl) rfl (lv_at hl 0 rfl) ?_
  refine lv_aload_n hx hb (dk DX11_declare 4 rfl) rfl (lv_at hl 0 rfl) ?_
  obtain ⟨zq4, mq2, hzq3, hF⟩ := bnd_ex hF
  refine r_callVi (As := []) (rest := [.ref (G.2.1 + 78)]) C hR (C_M_canDeclare l hl0 G mq1 _ _ hzq3) (by decide) (by decide) ob78 rfl wX11_320 rfl rfl (Nat.le_of_ble_eq_true rfl) hl.1 ⟨Nat.zero_le _, Nat.zero_le _⟩ (dk DX11_declare 5 rfl) (fun H locs hR => ?_)
  obtain ⟨k18_6, ek18_6, hF⟩ := lt_ex hF
  have J18 : ∀ (zq6 : Bool) (mq5 : Mem) (H : Heap) (locs : List Loc) (ls : Array Slot), lv_has ls 2 [(0, .ref (G.2.1 + 78))] → Rp G mr0 N0 mq5 s H locs → k18_6 zq6 mq5 = some (v, m') → W p l e (rmD 4) s mid args below meth c H locs 0 0 (MQ below (QR G mr0 N0 (some (.int v)) m') args s 0 0 (fun q => G.2.1 ≤ q)) (F0 mid 18 ls [.int (b2i zq6), .ref (G.2.1 + 78)]) := by
    intro zq6 mq5 H locs ls hl hR hF
    rw [ek18_6] at hF
    refine lv_iconst (v := (1 : Int32)) hx hb (dk DX11_declare 10 rfl) (by decide) ?_
    obtain ⟨zq9, mq7, hzq8, hF⟩ := bnd_ex hF
    refine r_callVi (As := [.int (b2i zq6), .int (1 : Int32)]) (rest := []) C hR (C_M_throwsIf l hl0 G zq6 (1 : Int32) mq5 _ _ hzq8) (by decide) (by decide) ob78 rfl wX11_227 rfl rfl (Nat.le_of_ble_eq_true rfl) hl.1 ⟨Nat.zero_le _, Nat.zero_le _⟩ (dk DX11_declare 11 rfl) (fun H locs hR => ?_)
    refine z_ifeq (tgt := 27) hx hb (dk DX11_declare 12 rfl) (by decide) (fun c22 => ?_) (fun c22 => ?_)
    · have hF := if_f c22 hF
      refine lv_aload_n hx hb (dk DX11_declare 15 rfl) rfl (lv_at hl 0 rfl) ?_
      obtain ⟨uq12, mq10, hzq11, hF⟩ := bnd_ex hF
      refine r_callVv (As := []) (rest := []) C hR (C_M_remembers l hl0 G mq7 _ _ hzq11) (by decide) (by decide) ob78 rfl wX11_294 rfl rfl (Nat.le_of_ble_eq_true rfl) hl.1 ⟨Nat.zero_le _, Nat.zero_le _⟩ (dk DX11_declare 16 rfl) (fun H locs hR => ?_)
      refine lv_aload_n hx hb (dk DX11_declare 17 rfl) rfl (lv_at hl 0 rfl) ?_
      refine lv_aload_n hx hb (dk DX11_declare 18 rfl) rfl (lv_at hl 0 rfl) ?_
      obtain ⟨xq15, mq13, hzq14, hF⟩ := bnd_ex hF
      refine r_callVi (As := []) (rest := [.ref (G.2.1 + 78)]) C hR (C_M_batter l hl0 G mq10 _ _ hzq14) (by decide) (by decide) ob78 rfl wX11_285 rfl rfl (Nat.le_of_ble_eq_true rfl) hl.1 ⟨Nat.zero_le _, Nat.zero_le _⟩ (dk DX11_declare 19 rfl) (fun H locs hR => ?_)
      obtain ⟨xq18, mq16, hzq17, hF⟩ := bnd_ex hF
      refine r_callVi (As := [.int xq15]) (rest := []) C hR (C_M_leadOf l hl0 G xq15 mq13 _ _ hzq17) (by decide) (by decide) ob78 rfl wX11_281 rfl rfl (Nat.le_of_ble_eq_true rfl) hl.1 ⟨Nat.zero_le _, Nat.zero_le _⟩ (dk DX11_declare 20 rfl) (fun H locs hR => ?_)
      refine lv_istore_n (lv' := [(1, .int xq18), (0, .ref (G.2.1 + 78))]) hx hb (dk DX11_declare 21 rfl) rfl hl (by decide) rfl (fun ls hl => ?_)
      refine lv_aload_n hx hb (dk DX11_declare 22 rfl) rfl (lv_at hl 1 rfl) ?_
      obtain ⟨uq21, mq19, hzq20, hF⟩ := bnd_ex hF
      refine r_callVv (As := []) (rest := []) C hR (C_M_nextInnings l hl0 G mq16 _ _ hzq20) (by decide) (by decide) ob78 rfl wX11_297 rfl rfl (Nat.le_of_ble_eq_true rfl) hl.1 ⟨Nat.zero_le _, Nat.zero_le _⟩ (dk DX11_declare 23 rfl) (fun H locs hR => ?_)
      refine lv_iload_n hx hb (dk DX11_declare 24 rfl) rfl (lv_at hl 0 rfl) ?_
      cases hF
      exact r_iret C hrt hR (dk DX11_declare 25 rfl)
    · have hF := if_t c22 hF
      refine lv_iconst (v := (0 : Int32)) hx hb (dk DX11_declare 13 rfl) (by decide) ?_
      cases hF
      exact r_iret C hrt hR (dk DX11_declare 14 rfl)
  refine z_ifne (tgt := 17) hx hb (dk DX11_declare 6 rfl) (by decide) (fun c10 => ?_) (fun c10 => ?_)
  · have hF := if_t c10 hF
    refine lv_iconst (v := (0 : Int32)) hx hb (dk DX11_declare 9 rfl) (by decide) ?_
    exact J18 false mq2 _ _ ls (lv_sub hl [0] rfl) hR hF
  · have hF := if_f c10 hF
    refine lv_iconst (v := (1 : Int32)) hx hb (dk DX11_declare 7 rfl) (by decide) ?_
    refine lv_goto (tgt := 18) hx hb (dk DX11_declare 8 rfl) (by decide) ?_
    exact J18 true mq2 _ _ ls (lv_sub hl [0] rfl) hR hF
set_option maxHeartbeats 4000000 in
set_option maxRecDepth 100000 in
theorem C_M_noState (l : Launch) (hl0 : l.stackTraces = false) (G : GG) (a1 : Int32) (a2 : Int32) (m0 : Mem) (v : Bool) (m' : Mem) (hF : F_M_noState a1 a2 m0 = some (v, m')) : Ct l G mr0 N0 yX11_noState cX11_noState 3 (some .boolean) 2 [.ref (G.2.1 + 78), .int a1, .int a2] m0 (some (.int (b2i v))) m' := by
  refine Ct_of hl0 (by decide) (Nat.le_of_ble_eq_true rfl) ?_
  intro p e s mid args below meth c ls C hrt hl hR
  have hx := C.1.1
  have hb := C.1.2.1
  have hl : lv_has ls 3 [(0, .ref (G.2.1 + 78)), (1, .int a1), (2, .int a2)] := hl
  unfold F_M_noState at hF
  refine lv_iload_n hx hb (dk DX11_noState 0 rfl) rfl (lv_at hl 1 rfl) ?_
  refine lv_bipush (v := (-81 : Int32)) hx hb (dk DX11_noState 1 rfl) (by decide) ?_
  refine lv_bipush (v := (81 : Int32)) hx hb (dk DX11_noState 2 rfl) (by decide) ?_
  obtain ⟨zq3, mq1, hzq2, hF⟩ := bnd_ex hF
  refine r_callSi (As := [.int a1, .int (-81 : Int32), .int (81 : Int32)]) (rest := []) C hR (C_M_in l hl0 G a1 (-81 : Int32) (81 : Int32) m0 _ _ hzq2) (by decide) (by decide) wX11_67 rfl rfl (Nat.le_of_ble_eq_true rfl) hl.1 ⟨Nat.zero_le _, Nat.zero_le _⟩ (dk DX11_noState 3 rfl) (fun H locs hR => ?_)
  refine z_ifeq (tgt := 21) hx hb (dk DX11_noState 4 rfl) (by decide) (fun c8 => ?_) (fun c8 => ?_)
  · have hF := if_f c8 hF
    refine lv_iconst (v := (1 : Int32)) hx hb (dk DX11_noState 10 rfl) (by decide) ?_
    refine lv_goto (tgt := 26) hx hb (dk DX11_noState 11 rfl) (by decide) ?_
    cases hF
    exact r_zret C hrt hR (dk DX11_noState 13 rfl)
  · have hF := if_t c8 hF
    refine lv_iload_n hx hb (dk DX11_noState 5 rfl) rfl (lv_at hl 2 rfl) ?_
    refine lv_iconst (v := (0 : Int32)) hx hb (dk DX11_noState 6 rfl) (by decide) ?_
    refine lv_bipush (v := (9 : Int32)) hx hb (dk DX11_noState 7 rfl) (by decide) ?_
    obtain ⟨zq6, mq4, hzq5, hF⟩ := bnd_ex hF
    refine r_callSi (As := [.int a2, .int (0 : Int32), .int (9 : Int32)]) (rest := []) C hR (C_M_in l hl0 G a2 (0 : Int32) (9 : Int32) mq1 _ _ hzq5) (by decide) (by decide) wX11_67 rfl rfl (Nat.le_of_ble_eq_true rfl) hl.1 ⟨Nat.zero_le _, Nat.zero_le _⟩ (dk DX11_noState 8 rfl) (fun H locs hR => ?_)
    refine z_ifne (tgt := 25) hx hb (dk DX11_noState 9 rfl) (by decide) (fun c18 => ?_) (fun c18 => ?_)
    · have hF := if_t c18 hF
      refine lv_iconst (v := (0 : Int32)) hx hb (dk DX11_noState 12 rfl) (by decide) ?_
      cases hF
      exact r_zret C hrt hR (dk DX11_noState 13 rfl)
    · have hF := if_f c18 hF
      refine lv_iconst (v := (1 : Int32)) hx hb (dk DX11_noState 10 rfl) (by decide) ?_
      refine lv_goto (tgt := 26) hx hb (dk DX11_noState 11 rfl) (by decide) ?_
      cases hF
      exact r_zret C hrt hR (dk DX11_noState 13 rfl)
set_option maxHeartbeats 4000000 in
set_option maxRecDepth 100000 in
theorem C_M_isChosen (l : Launch) (hl0 : l.stackTraces = false) (G : GG) (a1 : Int32) (a2 : Int32) (a3 : Int32) (a4 : Int32) (m0 : Mem) (v : Bool) (m' : Mem) (hF : F_M_isChosen a1 a2 a3 a4 m0 = some (v, m')) : Ct l G mr0 N0 yX11_isChosen cX11_isChosen 5 (some .boolean) 8 [.ref (G.2.1 + 78), .int a1, .int a2, .int a3, .int a4] m0 (some (.int (b2i v))) m' := by
  refine Ct_of hl0 (by decide) (Nat.le_of_ble_eq_true rfl) ?_
  intro p e s mid args below meth c ls C hrt hl hR
  have hx := C.1.1
  have hb := C.1.2.1
  have hl : lv_has ls 5 [(0, .ref (G.2.1 + 78)), (1, .int a1), (2, .int a2), (3, .int a3), (4, .int a4)] := hl
  unfold F_M_isChosen at hF
  refine lv_aload_n hx hb (dk DX11_isChosen 0 rfl) rfl (lv_at hl 0 rfl) ?_
  refine lv_iload_n hx hb (dk DX11_isChosen 1 rfl) rfl (lv_at hl 1 rfl) ?_
  refine lv_iload_n hx hb (dk DX11_isChosen 2 rfl) rfl (lv_at hl 2 rfl) ?_
  refine lv_iload_n hx hb (dk DX11_isChosen 3 rfl) rfl (lv_at hl 3 rfl) ?_
  refine lv_iload hx hb (dk DX11_isChosen 4 rfl) (lv_at hl 4 rfl) ?_
  refine lv_iconst (v := (0 : Int32)) hx hb (dk DX11_isChosen 5 rfl) (by decide) ?_
  obtain ⟨uq3, mq1, hzq2, hF⟩ := bnd_ex hF
  refine r_callVv (As := [.int a1, .int a2, .int a3, .int a4, .int (b2i false)]) (rest := []) C hR (C_M_goesOn l hl0 G a1 a2 a3 a4 false m0 _ _ hzq2) (by decide) (by decide) ob78 rfl wX11_368 rfl rfl (Nat.le_of_ble_eq_true rfl) hl.1 ⟨Nat.zero_le _, Nat.zero_le _⟩ (dk DX11_isChosen 6 rfl) (fun H locs hR => ?_)
  refine lv_aload_n hx hb (dk DX11_isChosen 7 rfl) rfl (lv_at hl 0 rfl) ?_
  refine lv_iload_n hx hb (dk DX11_isChosen 8 rfl) rfl (lv_at hl 1 rfl) ?_
  refine lv_iload_n hx hb (dk DX11_isChosen 9 rfl) rfl (lv_at hl 2 rfl) ?_
  refine lv_iload_n hx hb (dk DX11_isChosen 10 rfl) rfl (lv_at hl 3 rfl) ?_
  refine lv_iload hx hb (dk DX11_isChosen 11 rfl) (lv_at hl 4 rfl) ?_
  obtain ⟨zq6, mq4, hzq5, hF⟩ := bnd_ex hF
  refine r_callVi (As := [.int a1, .int a2, .int a3, .int a4]) (rest := []) C hR (C_M_chooses l hl0 G a1 a2 a3 a4 mq1 _ _ hzq5) (by decide) (by decide) ob78 rfl wX11_393 rfl rfl (Nat.le_of_ble_eq_true rfl) hl.1 ⟨Nat.zero_le _, Nat.zero_le _⟩ (dk DX11_isChosen 12 rfl) (fun H locs hR => ?_)
  cases hF
  exact r_zret C hrt hR (dk DX11_isChosen 13 rfl)
set_option maxHeartbeats 4000000 in
set_option maxRecDepth 100000 in
theorem C_M_noInnings (l : Launch) (hl0 : l.stackTraces = false) (G : GG) (a0 : Int32) (m0 : Mem) (v : Bool) (m' : Mem) (hF : F_M_noInnings a0 m0 = some (v, m')) : Ct l G mr0 N0 yX11_noInnings cX11_noInnings 1 (some .boolean) 2 [.int a0] m0 (some (.int (b2i v))) m' := by
  refine Ct_of hl0 (by decide) (Nat.le_of_ble_eq_true rfl) ?_
  intro p e s mid args below meth c ls C hrt hl hR
  have hx := C.1.1
  have hb := C.1.2.1
  have hl : lv_has ls 1 [(0, .int a0)] := hl
  unfold F_M_noInnings at hF
  refine lv_iload_n hx hb (dk DX11_noInnings 0 rfl) rfl (lv_at hl 0 rfl) ?_
  refine lv_iconst (v := (0 : Int32)) hx hb (dk DX11_noInnings 1 rfl) (by decide) ?_
  refine lv_iconst (v := (3 : Int32)) hx hb (dk DX11_noInnings 2 rfl) (by decide) ?_
  obtain ⟨zq3, mq1, hzq2, hF⟩ := bnd_ex hF
  refine r_callSi (As := [.int a0, .int (0 : Int32), .int (3 : Int32)]) (rest := []) C hR (C_M_in l hl0 G a0 (0 : Int32) (3 : Int32) m0 _ _ hzq2) (by decide) (by decide) wX11_67 rfl rfl (Nat.le_of_ble_eq_true rfl) hl.1 ⟨Nat.zero_le _, Nat.zero_le _⟩ (dk DX11_noInnings 3 rfl) (fun H locs hR => ?_)
  refine z_ifne (tgt := 13) hx hb (dk DX11_noInnings 4 rfl) (by decide) (fun c6 => ?_) (fun c6 => ?_)
  · have hF := if_t c6 hF
    refine lv_iconst (v := (0 : Int32)) hx hb (dk DX11_noInnings 7 rfl) (by decide) ?_
    cases hF
    exact r_zret C hrt hR (dk DX11_noInnings 8 rfl)
  · have hF := if_f c6 hF
    refine lv_iconst (v := (1 : Int32)) hx hb (dk DX11_noInnings 5 rfl) (by decide) ?_
    refine lv_goto (tgt := 14) hx hb (dk DX11_noInnings 6 rfl) (by decide) ?_
    cases hF
    exact r_zret C hrt hR (dk DX11_noInnings 8 rfl)
set_option maxHeartbeats 4000000 in
set_option maxRecDepth 100000 in
theorem C_M_declares (l : Launch) (hl0 : l.stackTraces = false) (G : GG) (a1 : Int32) (a2 : Int32) (a3 : Bool) (a4 : Int32) (a5 : Int32) (m0 : Mem) (v : Bool) (m' : Mem) (hF : F_M_declares a1 a2 a3 a4 a5 m0 = some (v, m')) : Ct l G mr0 N0 yX11_declares cX11_declares 6 (some .boolean) 11 [.ref (G.2.1 + 78), .int a1, .int a2, .int (b2i a3), .int a4, .int a5] m0 (some (.int (b2i v))) m' := by
  refine Ct_of hl0 (by decide) (Nat.le_of_ble_eq_true rfl) ?_
  intro p e s mid args below meth c ls C hrt hl hR
  have hx := C.1.1
  have hb := C.1.2.1
  have hl : lv_has ls 6 [(0, .ref (G.2.1 + 78)), (1, .int a1), (2, .int a2), (3, .int (b2i a3)), (4, .int a4), (5, .int a5)] := hl
  unfold F_M_declares at hF
  refine lv_aload_n hx hb (dk DX11_declares 0 rfl) rfl (lv_at hl 0 rfl) ?_
  refine lv_iconst (v := (0 : Int32)) hx hb (dk DX11_declares 1 rfl) (by decide) ?_
  refine pX11_3 (x := (0 : Int32)) C hR ob78 (dk DX11_declares 2 rfl) (fun H locs hR => ?_)
  obtain ⟨mq1, emq1, hF⟩ := lt_ex hF
  have hR := Rp_at emq1 hR
  refine lv_aload_n hx hb (dk DX11_declares 3 rfl) rfl (lv_at hl 0 rfl) ?_
  refine lv_aload_n hx hb (dk DX11_declares 4 rfl) rfl (lv_at hl 0 rfl) ?_
  refine lv_iload_n hx hb (dk DX11_declares 5 rfl) rfl (lv_at hl 1 rfl) ?_
  obtain ⟨zq4, mq2, hzq3, hF⟩ := bnd_ex hF
  refine r_callVi (As := [.int a1]) (rest := [.ref (G.2.1 + 78)]) C hR (C_M_noPlayed l hl0 G a1 mq1 _ _ hzq3) (by decide) (by decide) ob78 rfl wX11_452 rfl rfl (Nat.le_of_ble_eq_true rfl) hl.1 ⟨Nat.zero_le _, Nat.zero_le _⟩ (dk DX11_declares 6 rfl) (fun H locs hR => ?_)
  obtain ⟨k26_6, ek26_6, hF⟩ := lt_ex hF
  have J26 : ∀ (zq6 : Bool) (mq5 : Mem) (H : Heap) (locs : List Loc) (ls : Array Slot), lv_has ls 6 [(0, .ref (G.2.1 + 78)), (1, .int a1), (2, .int a2), (3, .int (b2i a3)), (4, .int a4), (5, .int a5)] → Rp G mr0 N0 mq5 s H locs → k26_6 zq6 mq5 = some (v, m') → W p l e (rmD 11) s mid args below meth c H locs 0 0 (MQ below (QR G mr0 N0 (some (.int (b2i v))) m') args s 0 0 (fun q => G.2.1 ≤ q)) (F0 mid 26 ls [.int (b2i zq6), .ref (G.2.1 + 78)]) := by
    intro zq6 mq5 H locs ls hl hR hF
    rw [ek26_6] at hF
    refine lv_iconst (v := (1 : Int32)) hx hb (dk DX11_declares 14 rfl) (by decide) ?_
    obtain ⟨zq9, mq7, hzq8, hF⟩ := bnd_ex hF
    refine r_callVi (As := [.int (b2i zq6), .int (1 : Int32)]) (rest := []) C hR (C_M_throwsIf l hl0 G zq6 (1 : Int32) mq5 _ _ hzq8) (by decide) (by decide) ob78 rfl wX11_227 rfl rfl (Nat.le_of_ble_eq_true rfl) hl.1 ⟨Nat.zero_le _, Nat.zero_le _⟩ (dk DX11_declares 15 rfl) (fun H locs hR => ?_)
    refine z_ifne (tgt := 62) hx hb (dk DX11_declares 16 rfl) (by decide) (fun c30 => ?_) (fun c30 => ?_)
    · have hF := if_t c30 hF
      refine lv_iconst (v := (0 : Int32)) hx hb (dk DX11_declares 32 rfl) (by decide) ?_
      cases hF
      exact r_zret C hrt hR (dk DX11_declares 33 rfl)
    · have hF := if_f c30 hF
      refine lv_aload_n hx hb (dk DX11_declares 17 rfl) rfl (lv_at hl 0 rfl) ?_
      refine lv_aload_n hx hb (dk DX11_declares 18 rfl) rfl (lv_at hl 0 rfl) ?_
      refine lv_iload hx hb (dk DX11_declares 19 rfl) (lv_at hl 4 rfl) ?_
      refine lv_iload hx hb (dk DX11_declares 20 rfl) (lv_at hl 5 rfl) ?_
      obtain ⟨zq12, mq10, hzq11, hF⟩ := bnd_ex hF
      refine r_callVi (As := [.int a4, .int a5]) (rest := [.ref (G.2.1 + 78)]) C hR (C_M_noState l hl0 G a4 a5 mq7 _ _ hzq11) (by decide) (by decide) ob78 rfl wX11_455 rfl rfl (Nat.le_of_ble_eq_true rfl) hl.1 ⟨Nat.zero_le _, Nat.zero_le _⟩ (dk DX11_declares 21 rfl) (fun H locs hR => ?_)
      refine lv_iconst (v := (2 : Int32)) hx hb (dk DX11_declares 22 rfl) (by decide) ?_
      obtain ⟨zq15, mq13, hzq14, hF⟩ := bnd_ex hF
      refine r_callVi (As := [.int (b2i zq12), .int (2 : Int32)]) (rest := []) C hR (C_M_throwsIf l hl0 G zq12 (2 : Int32) mq10 _ _ hzq14) (by decide) (by decide) ob78 rfl wX11_227 rfl rfl (Nat.le_of_ble_eq_true rfl) hl.1 ⟨Nat.zero_le _, Nat.zero_le _⟩ (dk DX11_declares 23 rfl) (fun H locs hR => ?_)
      refine z_ifne (tgt := 62) hx hb (dk DX11_declares 24 rfl) (by decide) (fun c46 => ?_) (fun c46 => ?_)
      · have hF := if_t c46 hF
        refine lv_iconst (v := (0 : Int32)) hx hb (dk DX11_declares 32 rfl) (by decide) ?_
        cases hF
        exact r_zret C hrt hR (dk DX11_declares 33 rfl)
      · have hF := if_f c46 hF
        refine lv_iload_n hx hb (dk DX11_declares 25 rfl) rfl (lv_at hl 2 rfl) ?_
        refine lv_iconst (v := (3 : Int32)) hx hb (dk DX11_declares 26 rfl) (by decide) ?_
        refine lv_icmp_eq (tgt := 62) hx hb (dk DX11_declares 27 rfl) (by decide) (fun c51 => ?_) (fun c51 => ?_)
        · have hF := if_t c51 hF
          refine lv_iconst (v := (0 : Int32)) hx hb (dk DX11_declares 32 rfl) (by decide) ?_
          cases hF
          exact r_zret C hrt hR (dk DX11_declares 33 rfl)
        · have hF := if_f c51 hF
          refine lv_iload_n hx hb (dk DX11_declares 28 rfl) rfl (lv_at hl 1 rfl) ?_
          refine lv_aload_n hx hb (dk DX11_declares 29 rfl) rfl (lv_at hl 0 rfl) ?_
          obtain ⟨xq18, mq16, hzq17, hF⟩ := bnd_ex hF
          refine r_callVi (As := []) (rest := [.int a1]) C hR (C_M_size l hl0 G mq13 _ _ hzq17) (by decide) (by decide) ob78 rfl wX11_63 rfl rfl (Nat.le_of_ble_eq_true rfl) hl.1 ⟨Nat.zero_le _, Nat.zero_le _⟩ (dk DX11_declares 30 rfl) (fun H locs hR => ?_)
          refine lv_icmp_ne (tgt := 64) hx hb (dk DX11_declares 31 rfl) (by decide) (fun c59 => ?_) (fun c59 => ?_)
          · have hF := if_f c59 hF
            refine lv_aload_n hx hb (dk DX11_declares 34 rfl) rfl (lv_at hl 0 rfl) ?_
            refine lv_iload_n hx hb (dk DX11_declares 35 rfl) rfl (lv_at hl 1 rfl) ?_
            refine lv_iload hx hb (dk DX11_declares 36 rfl) (lv_at hl 4 rfl) ?_
            obtain ⟨uq21, mq19, hzq20, hF⟩ := bnd_ex hF
            refine r_callVv (As := [.int a1, .int a4]) (rest := []) C hR (C_M_countsFrom l hl0 G a1 a4 mq16 _ _ hzq20) (by decide) (by decide) ob78 rfl wX11_458 rfl rfl (Nat.le_of_ble_eq_true rfl) hl.1 ⟨Nat.zero_le _, Nat.zero_le _⟩ (dk DX11_declares 37 rfl) (fun H locs hR => ?_)
            refine lv_aload_n hx hb (dk DX11_declares 38 rfl) rfl (lv_at hl 0 rfl) ?_
            refine lv_iload_n hx hb (dk DX11_declares 39 rfl) rfl (lv_at hl 1 rfl) ?_
            refine lv_iload_n hx hb (dk DX11_declares 40 rfl) rfl (lv_at hl 2 rfl) ?_
            refine lv_iload_n hx hb (dk DX11_declares 41 rfl) rfl (lv_at hl 3 rfl) ?_
            obtain ⟨xq24, mq22, hzq23, hF⟩ := bnd_ex hF
            refine r_callSi (As := [.int a2, .int (b2i a3)]) (rest := [.int a1, .ref (G.2.1 + 78)]) C hR (C_M_kindOf l hl0 G a2 a3 mq19 _ _ hzq23) (by decide) (by decide) wX11_406 rfl rfl (Nat.le_of_ble_eq_true rfl) hl.1 ⟨Nat.zero_le _, Nat.zero_le _⟩ (dk DX11_declares 42 rfl) (fun H locs hR => ?_)
            refine lv_iload hx hb (dk DX11_declares 43 rfl) (lv_at hl 5 rfl) ?_
            refine lv_iload hx hb (dk DX11_declares 44 rfl) (lv_at hl 4 rfl) ?_
            obtain ⟨zq27, mq25, hzq26, hF⟩ := bnd_ex hF
            refine r_callVi (As := [.int a1, .int xq24, .int a5, .int a4]) (rest := []) C hR (C_M_isChosen l hl0 G a1 xq24 a5 a4 mq22 _ _ hzq26) (by decide) (by decide) ob78 rfl wX11_461 rfl rfl (Nat.le_of_ble_eq_true rfl) hl.1 ⟨Nat.zero_le _, Nat.zero_le _⟩ (dk DX11_declares 45 rfl) (fun H locs hR => ?_)
            cases hF
            exact r_zret C hrt hR (dk DX11_declares 46 rfl)
          · have hF := if_t c59 hF
            refine lv_iconst (v := (0 : Int32)) hx hb (dk DX11_declares 32 rfl) (by decide) ?_
            cases hF
            exact r_zret C hrt hR (dk DX11_declares 33 rfl)
  obtain ⟨k21_28, ek21_28, hF⟩ := lt_ex hF
  have J21 : ∀ (mq28 : Mem) (H : Heap) (locs : List Loc) (ls : Array Slot), lv_has ls 6 [(0, .ref (G.2.1 + 78)), (1, .int a1), (2, .int a2), (3, .int (b2i a3)), (4, .int a4), (5, .int a5)] → Rp G mr0 N0 mq28 s H locs → k21_28  mq28 = some (v, m') → W p l e (rmD 11) s mid args below meth c H locs 0 0 (MQ below (QR G mr0 N0 (some (.int (b2i v))) m') args s 0 0 (fun q => G.2.1 ≤ q)) (F0 mid 21 ls [.ref (G.2.1 + 78)]) := by
    intro  mq28 H locs ls hl hR hF
    rw [ek21_28] at hF
    refine lv_iconst (v := (1 : Int32)) hx hb (dk DX11_declares 11 rfl) (by decide) ?_
    refine lv_goto (tgt := 26) hx hb (dk DX11_declares 12 rfl) (by decide) ?_
    exact J26 true mq28 _ _ ls (lv_sub hl [0, 1, 2, 3, 4, 5] rfl) hR hF
  refine z_ifne (tgt := 21) hx hb (dk DX11_declares 7 rfl) (by decide) (fun c11 => ?_) (fun c11 => ?_)
  · have hF := if_t c11 hF
    exact J21 mq2 _ _ ls (lv_sub hl [0, 1, 2, 3, 4, 5] rfl) hR hF
  · have hF := if_f c11 hF
    refine lv_iload_n hx hb (dk DX11_declares 8 rfl) rfl (lv_at hl 2 rfl) ?_
    obtain ⟨zq31, mq29, hzq30, hF⟩ := bnd_ex hF
    refine r_callSi (As := [.int a2]) (rest := [.ref (G.2.1 + 78)]) C hR (C_M_noInnings l hl0 G a2 mq2 _ _ hzq30) (by decide) (by decide) wX11_256 rfl rfl (Nat.le_of_ble_eq_true rfl) hl.1 ⟨Nat.zero_le _, Nat.zero_le _⟩ (dk DX11_declares 9 rfl) (fun H locs hR => ?_)
    refine z_ifeq (tgt := 25) hx hb (dk DX11_declares 10 rfl) (by decide) (fun c18 => ?_) (fun c18 => ?_)
    · have hF := if_f c18 hF
      refine lv_iconst (v := (0 : Int32)) hx hb (dk DX11_declares 13 rfl) (by decide) ?_
      exact J26 false mq29 _ _ ls (lv_sub hl [0, 1, 2, 3, 4, 5] rfl) hR hF
    · have hF := if_t c18 hF
      exact J21 mq29 _ _ ls (lv_sub hl [0, 1, 2, 3, 4, 5] rfl) hR hF
set_option maxHeartbeats 4000000 in
set_option maxRecDepth 100000 in
theorem C_M_end (l : Launch) (hl0 : l.stackTraces = false) (G : GG) (a1 : Int32) (m0 : Mem) (v : Bool) (m' : Mem) (hF : F_M_end a1 m0 = some (v, m')) : Ct l G mr0 N0 yX11_end cX11_end 2 (some .boolean) 1 [.ref (G.2.1 + 78), .int a1] m0 (some (.int (b2i v))) m' := by
  refine Ct_of hl0 (by decide) (Nat.le_of_ble_eq_true rfl) ?_
  intro p e s mid args below meth c ls C hrt hl hR
  have hx := C.1.1
  have hb := C.1.2.1
  have hl : lv_has ls 2 [(0, .ref (G.2.1 + 78)), (1, .int a1)] := hl
  unfold F_M_end at hF
  refine lv_aload_n hx hb (dk DX11_end 0 rfl) rfl (lv_at hl 0 rfl) ?_
  refine lv_iconst (v := (0 : Int32)) hx hb (dk DX11_end 1 rfl) (by decide) ?_
  refine pX11_3 (x := (0 : Int32)) C hR ob78 (dk DX11_end 2 rfl) (fun H locs hR => ?_)
  obtain ⟨mq1, emq1, hF⟩ := lt_ex hF
  have hR := Rp_at emq1 hR
  refine lv_iload_n hx hb (dk DX11_end 3 rfl) rfl (lv_at hl 1 rfl) ?_
  refine lv_if_lt (tgt := 17) hx hb (dk DX11_end 4 rfl) (by decide) (fun c6 => ?_) (fun c6 => ?_)
  · have hF := if_t c6 hF
    refine lv_iconst (v := (0 : Int32)) hx hb (dk DX11_end 9 rfl) (by decide) ?_
    cases hF
    exact r_zret C hrt hR (dk DX11_end 10 rfl)
  · have hF := if_f c6 hF
    refine lv_iload_n hx hb (dk DX11_end 5 rfl) rfl (lv_at hl 1 rfl) ?_
    refine lv_aload_n hx hb (dk DX11_end 6 rfl) rfl (lv_at hl 0 rfl) ?_
    refine gX11_71 C hR ob78 (dk DX11_end 7 rfl) ?_
    refine lv_icmp_le (tgt := 19) hx hb (dk DX11_end 8 rfl) (by decide) (fun c14 => ?_) (fun c14 => ?_)
    · have hF := if_t c14 hF
      refine lv_aload_n hx hb (dk DX11_end 11 rfl) rfl (lv_at hl 0 rfl) ?_
      refine lv_iload_n hx hb (dk DX11_end 12 rfl) rfl (lv_at hl 1 rfl) ?_
      refine pX11_71 (x := a1) C hR ob78 (dk DX11_end 13 rfl) (fun H locs hR => ?_)
      obtain ⟨mq2, emq2, hF⟩ := lt_ex hF
      have hR := Rp_at emq2 hR
      refine lv_iconst (v := (1 : Int32)) hx hb (dk DX11_end 14 rfl) (by decide) ?_
      cases hF
      exact r_zret C hrt hR (dk DX11_end 15 rfl)
    · have hF := if_f c14 hF
      refine lv_iconst (v := (0 : Int32)) hx hb (dk DX11_end 9 rfl) (by decide) ?_
      cases hF
      exact r_zret C hrt hR (dk DX11_end 10 rfl)
set_option maxHeartbeats 4000000 in
set_option maxRecDepth 100000 in
theorem C_M_enforces (l : Launch) (hl0 : l.stackTraces = false) (G : GG) (a1 : Int32) (a2 : Int32) (m0 : Mem) (v : Bool) (m' : Mem) (hF : F_M_enforces a1 a2 m0 = some (v, m')) : Ct l G mr0 N0 yX11_enforces cX11_enforces 3 (some .boolean) 11 [.ref (G.2.1 + 78), .int a1, .int a2] m0 (some (.int (b2i v))) m' := by
  refine Ct_of hl0 (by decide) (Nat.le_of_ble_eq_true rfl) ?_
  intro p e s mid args below meth c ls C hrt hl hR
  have hx := C.1.1
  have hb := C.1.2.1
  have hl : lv_has ls 3 [(0, .ref (G.2.1 + 78)), (1, .int a1), (2, .int a2)] := hl
  unfold F_M_enforces at hF
  refine lv_aload_n hx hb (dk DX11_enforces 0 rfl) rfl (lv_at hl 0 rfl) ?_
  refine lv_iconst (v := (0 : Int32)) hx hb (dk DX11_enforces 1 rfl) (by decide) ?_
  refine pX11_3 (x := (0 : Int32)) C hR ob78 (dk DX11_enforces 2 rfl) (fun H locs hR => ?_)
  obtain ⟨mq1, emq1, hF⟩ := lt_ex hF
  have hR := Rp_at emq1 hR
  refine lv_aload_n hx hb (dk DX11_enforces 3 rfl) rfl (lv_at hl 0 rfl) ?_
  refine lv_aload_n hx hb (dk DX11_enforces 4 rfl) rfl (lv_at hl 0 rfl) ?_
  refine lv_iload_n hx hb (dk DX11_enforces 5 rfl) rfl (lv_at hl 1 rfl) ?_
  obtain ⟨zq4, mq2, hzq3, hF⟩ := bnd_ex hF
  refine r_callVi (As := [.int a1]) (rest := [.ref (G.2.1 + 78)]) C hR (C_M_noPlayed l hl0 G a1 mq1 _ _ hzq3) (by decide) (by decide) ob78 rfl wX11_452 rfl rfl (Nat.le_of_ble_eq_true rfl) hl.1 ⟨Nat.zero_le _, Nat.zero_le _⟩ (dk DX11_enforces 6 rfl) (fun H locs hR => ?_)
  refine lv_iconst (v := (1 : Int32)) hx hb (dk DX11_enforces 7 rfl) (by decide) ?_
  obtain ⟨zq7, mq5, hzq6, hF⟩ := bnd_ex hF
  refine r_callVi (As := [.int (b2i zq4), .int (1 : Int32)]) (rest := []) C hR (C_M_throwsIf l hl0 G zq4 (1 : Int32) mq2 _ _ hzq6) (by decide) (by decide) ob78 rfl wX11_227 rfl rfl (Nat.le_of_ble_eq_true rfl) hl.1 ⟨Nat.zero_le _, Nat.zero_le _⟩ (dk DX11_enforces 8 rfl) (fun H locs hR => ?_)
  refine z_ifne (tgt := 50) hx hb (dk DX11_enforces 9 rfl) (by decide) (fun c15 => ?_) (fun c15 => ?_)
  · have hF := if_t c15 hF
    refine lv_iconst (v := (0 : Int32)) hx hb (dk DX11_enforces 28 rfl) (by decide) ?_
    cases hF
    exact r_zret C hrt hR (dk DX11_enforces 29 rfl)
  · have hF := if_f c15 hF
    refine lv_aload_n hx hb (dk DX11_enforces 10 rfl) rfl (lv_at hl 0 rfl) ?_
    refine lv_aload_n hx hb (dk DX11_enforces 11 rfl) rfl (lv_at hl 0 rfl) ?_
    refine lv_iload_n hx hb (dk DX11_enforces 12 rfl) rfl (lv_at hl 2 rfl) ?_
    refine lv_iconst (v := (0 : Int32)) hx hb (dk DX11_enforces 13 rfl) (by decide) ?_
    obtain ⟨zq10, mq8, hzq9, hF⟩ := bnd_ex hF
    refine r_callVi (As := [.int a2, .int (0 : Int32)]) (rest := [.ref (G.2.1 + 78)]) C hR (C_M_noState l hl0 G a2 (0 : Int32) mq5 _ _ hzq9) (by decide) (by decide) ob78 rfl wX11_455 rfl rfl (Nat.le_of_ble_eq_true rfl) hl.1 ⟨Nat.zero_le _, Nat.zero_le _⟩ (dk DX11_enforces 14 rfl) (fun H locs hR => ?_)
    refine lv_iconst (v := (2 : Int32)) hx hb (dk DX11_enforces 15 rfl) (by decide) ?_
    obtain ⟨zq13, mq11, hzq12, hF⟩ := bnd_ex hF
    refine r_callVi (As := [.int (b2i zq10), .int (2 : Int32)]) (rest := []) C hR (C_M_throwsIf l hl0 G zq10 (2 : Int32) mq8 _ _ hzq12) (by decide) (by decide) ob78 rfl wX11_227 rfl rfl (Nat.le_of_ble_eq_true rfl) hl.1 ⟨Nat.zero_le _, Nat.zero_le _⟩ (dk DX11_enforces 16 rfl) (fun H locs hR => ?_)
    refine z_ifne (tgt := 50) hx hb (dk DX11_enforces 17 rfl) (by decide) (fun c29 => ?_) (fun c29 => ?_)
    · have hF := if_t c29 hF
      refine lv_iconst (v := (0 : Int32)) hx hb (dk DX11_enforces 28 rfl) (by decide) ?_
      cases hF
      exact r_zret C hrt hR (dk DX11_enforces 29 rfl)
    · have hF := if_f c29 hF
      refine lv_iload_n hx hb (dk DX11_enforces 18 rfl) rfl (lv_at hl 2 rfl) ?_
      refine lv_aload_n hx hb (dk DX11_enforces 19 rfl) rfl (lv_at hl 0 rfl) ?_
      refine gX11_13 C hR ob78 rf78_1 (dk DX11_enforces 20 rfl) ?_
      refine lv_iconst (v := (1 : Int32)) hx hb (dk DX11_enforces 21 rfl) (by decide) ?_
      refine r_iald C hR ob79 rfl (dk DX11_enforces 22 rfl) ?_
      refine lv_icmp_lt (tgt := 50) hx hb (dk DX11_enforces 23 rfl) (by decide) (fun c39 => ?_) (fun c39 => ?_)
      · have hF := if_t c39 hF
        refine lv_iconst (v := (0 : Int32)) hx hb (dk DX11_enforces 28 rfl) (by decide) ?_
        cases hF
        exact r_zret C hrt hR (dk DX11_enforces 29 rfl)
      · have hF := if_f c39 hF
        refine lv_iload_n hx hb (dk DX11_enforces 24 rfl) rfl (lv_at hl 1 rfl) ?_
        refine lv_aload_n hx hb (dk DX11_enforces 25 rfl) rfl (lv_at hl 0 rfl) ?_
        obtain ⟨xq16, mq14, hzq15, hF⟩ := bnd_ex hF
        refine r_callVi (As := []) (rest := [.int a1]) C hR (C_M_size l hl0 G mq11 _ _ hzq15) (by decide) (by decide) ob78 rfl wX11_63 rfl rfl (Nat.le_of_ble_eq_true rfl) hl.1 ⟨Nat.zero_le _, Nat.zero_le _⟩ (dk DX11_enforces 26 rfl) (fun H locs hR => ?_)
        refine lv_icmp_ne (tgt := 52) hx hb (dk DX11_enforces 27 rfl) (by decide) (fun c47 => ?_) (fun c47 => ?_)
        · have hF := if_f c47 hF
          refine lv_aload_n hx hb (dk DX11_enforces 30 rfl) rfl (lv_at hl 0 rfl) ?_
          refine lv_iload_n hx hb (dk DX11_enforces 31 rfl) rfl (lv_at hl 1 rfl) ?_
          refine lv_iload_n hx hb (dk DX11_enforces 32 rfl) rfl (lv_at hl 2 rfl) ?_
          obtain ⟨uq19, mq17, hzq18, hF⟩ := bnd_ex hF
          refine r_callVv (As := [.int a1, .int a2]) (rest := []) C hR (C_M_countsFrom l hl0 G a1 a2 mq14 _ _ hzq18) (by decide) (by decide) ob78 rfl wX11_458 rfl rfl (Nat.le_of_ble_eq_true rfl) hl.1 ⟨Nat.zero_le _, Nat.zero_le _⟩ (dk DX11_enforces 33 rfl) (fun H locs hR => ?_)
          refine lv_aload_n hx hb (dk DX11_enforces 34 rfl) rfl (lv_at hl 0 rfl) ?_
          refine lv_iload_n hx hb (dk DX11_enforces 35 rfl) rfl (lv_at hl 1 rfl) ?_
          refine lv_iconst (v := (2 : Int32)) hx hb (dk DX11_enforces 36 rfl) (by decide) ?_
          refine lv_bipush (v := (10 : Int32)) hx hb (dk DX11_enforces 37 rfl) (by decide) ?_
          refine lv_iload_n hx hb (dk DX11_enforces 38 rfl) rfl (lv_at hl 2 rfl) ?_
          obtain ⟨zq22, mq20, hzq21, hF⟩ := bnd_ex hF
          refine r_callVi (As := [.int a1, .int (2 : Int32), .int (10 : Int32), .int a2]) (rest := []) C hR (C_M_isChosen l hl0 G a1 (2 : Int32) (10 : Int32) a2 mq17 _ _ hzq21) (by decide) (by decide) ob78 rfl wX11_461 rfl rfl (Nat.le_of_ble_eq_true rfl) hl.1 ⟨Nat.zero_le _, Nat.zero_le _⟩ (dk DX11_enforces 39 rfl) (fun H locs hR => ?_)
          cases hF
          exact r_zret C hrt hR (dk DX11_enforces 40 rfl)
        · have hF := if_t c47 hF
          refine lv_iconst (v := (0 : Int32)) hx hb (dk DX11_enforces 28 rfl) (by decide) ?_
          cases hF
          exact r_zret C hrt hR (dk DX11_enforces 29 rfl)
set_option maxHeartbeats 4000000 in
set_option maxRecDepth 100000 in
theorem C_M_noSide (l : Launch) (hl0 : l.stackTraces = false) (G : GG) (a0 : Int32) (m0 : Mem) (v : Bool) (m' : Mem) (hF : F_M_noSide a0 m0 = some (v, m')) : Ct l G mr0 N0 yX11_noSide cX11_noSide 1 (some .boolean) 2 [.int a0] m0 (some (.int (b2i v))) m' := by
  refine Ct_of hl0 (by decide) (Nat.le_of_ble_eq_true rfl) ?_
  intro p e s mid args below meth c ls C hrt hl hR
  have hx := C.1.1
  have hb := C.1.2.1
  have hl : lv_has ls 1 [(0, .int a0)] := hl
  unfold F_M_noSide at hF
  refine lv_iload_n hx hb (dk DX11_noSide 0 rfl) rfl (lv_at hl 0 rfl) ?_
  refine lv_iconst (v := (0 : Int32)) hx hb (dk DX11_noSide 1 rfl) (by decide) ?_
  refine lv_iconst (v := (1 : Int32)) hx hb (dk DX11_noSide 2 rfl) (by decide) ?_
  obtain ⟨zq3, mq1, hzq2, hF⟩ := bnd_ex hF
  refine r_callSi (As := [.int a0, .int (0 : Int32), .int (1 : Int32)]) (rest := []) C hR (C_M_in l hl0 G a0 (0 : Int32) (1 : Int32) m0 _ _ hzq2) (by decide) (by decide) wX11_67 rfl rfl (Nat.le_of_ble_eq_true rfl) hl.1 ⟨Nat.zero_le _, Nat.zero_le _⟩ (dk DX11_noSide 3 rfl) (fun H locs hR => ?_)
  refine z_ifne (tgt := 13) hx hb (dk DX11_noSide 4 rfl) (by decide) (fun c6 => ?_) (fun c6 => ?_)
  · have hF := if_t c6 hF
    refine lv_iconst (v := (0 : Int32)) hx hb (dk DX11_noSide 7 rfl) (by decide) ?_
    cases hF
    exact r_zret C hrt hR (dk DX11_noSide 8 rfl)
  · have hF := if_f c6 hF
    refine lv_iconst (v := (1 : Int32)) hx hb (dk DX11_noSide 5 rfl) (by decide) ?_
    refine lv_goto (tgt := 14) hx hb (dk DX11_noSide 6 rfl) (by decide) ?_
    cases hF
    exact r_zret C hrt hR (dk DX11_noSide 8 rfl)
set_option maxHeartbeats 4000000 in
set_option maxRecDepth 100000 in
theorem C_M_tossWorth (l : Launch) (hl0 : l.stackTraces = false) (G : GG) (a1 : Int32) (a2 : Bool) (m0 : Mem) (v : Int64) (m' : Mem) (hF : F_M_tossWorth a1 a2 m0 = some (v, m')) : Ct l G mr0 N0 yX11_tossWorth cX11_tossWorth 3 (some .long) 10 [.ref (G.2.1 + 78), .int a1, .int (b2i a2)] m0 (some (.long v)) m' := by
  refine Ct_of hl0 (by decide) (Nat.le_of_ble_eq_true rfl) ?_
  intro p e s mid args below meth c ls C hrt hl hR
  have hx := C.1.1
  have hb := C.1.2.1
  have hl : lv_has ls 3 [(0, .ref (G.2.1 + 78)), (1, .int a1), (2, .int (b2i a2))] := hl
  unfold F_M_tossWorth at hF
  refine lv_aload_n hx hb (dk DX11_tossWorth 0 rfl) rfl (lv_at hl 0 rfl) ?_
  refine lv_aload_n hx hb (dk DX11_tossWorth 1 rfl) rfl (lv_at hl 0 rfl) ?_
  refine gX11_13 C hR ob78 rf78_1 (dk DX11_tossWorth 2 rfl) ?_
  refine lv_iconst (v := (2 : Int32)) hx hb (dk DX11_tossWorth 3 rfl) (by decide) ?_
  refine r_iald C hR ob79 rfl (dk DX11_tossWorth 4 rfl) ?_
  refine pX11_334 (x := gI m0 79 2) C hR ob78 (dk DX11_tossWorth 5 rfl) (fun H locs hR => ?_)
  obtain ⟨mq1, emq1, hF⟩ := lt_ex hF
  have hR := Rp_at emq1 hR
  refine lv_aload_n hx hb (dk DX11_tossWorth 6 rfl) rfl (lv_at hl 0 rfl) ?_
  refine lv_iload_n hx hb (dk DX11_tossWorth 7 rfl) rfl (lv_at hl 2 rfl) ?_
  obtain ⟨k22_3, ek22_3, hF⟩ := lt_ex hF
  have J22 : ∀ (xq3 : Int32) (mq2 : Mem) (H : Heap) (locs : List Loc) (ls : Array Slot), lv_has ls 3 [(0, .ref (G.2.1 + 78)), (2, .int (b2i a2))] → Rp G mr0 N0 mq2 s H locs → k22_3 xq3 mq2 = some (v, m') → W p l e (rmD 10) s mid args below meth c H locs 0 0 (MQ below (QR G mr0 N0 (some (.long v)) m') args s 0 0 (fun q => G.2.1 ≤ q)) (F0 mid 22 ls [.int xq3, .ref (G.2.1 + 78)]) := by
    intro xq3 mq2 H locs ls hl hR hF
    rw [ek22_3] at hF
    refine lv_iconst (v := (0 : Int32)) hx hb (dk DX11_tossWorth 14 rfl) (by decide) ?_
    refine lv_iconst (v := (0 : Int32)) hx hb (dk DX11_tossWorth 15 rfl) (by decide) ?_
    obtain ⟨uq6, mq4, hzq5, hF⟩ := bnd_ex hF
    refine r_callVv (As := [.int xq3, .int (0 : Int32), .int (0 : Int32)]) (rest := []) C hR (C_M_layers l hl0 G xq3 (0 : Int32) (0 : Int32) mq2 _ _ hzq5) (by decide) (by decide) ob78 rfl wX11_412 rfl rfl (Nat.le_of_ble_eq_true rfl) hl.1 ⟨Nat.zero_le _, Nat.zero_le _⟩ (dk DX11_tossWorth 16 rfl) (fun H locs hR => ?_)
    refine lv_aload_n hx hb (dk DX11_tossWorth 17 rfl) rfl (lv_at hl 0 rfl) ?_
    refine lv_iconst (v := (0 : Int32)) hx hb (dk DX11_tossWorth 18 rfl) (by decide) ?_
    refine lv_iconst (v := (0 : Int32)) hx hb (dk DX11_tossWorth 19 rfl) (by decide) ?_
    refine lv_bipush (v := (10 : Int32)) hx hb (dk DX11_tossWorth 20 rfl) (by decide) ?_
    refine lv_iconst (v := (0 : Int32)) hx hb (dk DX11_tossWorth 21 rfl) (by decide) ?_
    obtain ⟨uq9, mq7, hzq8, hF⟩ := bnd_ex hF
    refine r_callVv (As := [.int (0 : Int32), .int (0 : Int32), .int (10 : Int32), .int (0 : Int32)]) (rest := []) C hR (C_M_takes l hl0 G (0 : Int32) (0 : Int32) (10 : Int32) (0 : Int32) mq4 _ _ hzq8) (by decide) (by decide) ob78 rfl wX11_421 rfl rfl (Nat.le_of_ble_eq_true rfl) hl.1 ⟨Nat.zero_le _, Nat.zero_le _⟩ (dk DX11_tossWorth 22 rfl) (fun H locs hR => ?_)
    refine lv_iload_n hx hb (dk DX11_tossWorth 23 rfl) rfl (lv_at hl 1 rfl) ?_
    refine z_ifeq (tgt := 48) hx hb (dk DX11_tossWorth 24 rfl) (by decide) (fun c37 => ?_) (fun c37 => ?_)
    · have hF := if_f c37 hF
      refine lv_aload_n hx hb (dk DX11_tossWorth 29 rfl) rfl (lv_at hl 0 rfl) ?_
      refine lv_iconst (v := (0 : Int32)) hx hb (dk DX11_tossWorth 30 rfl) (by decide) ?_
      refine lv_aload_n hx hb (dk DX11_tossWorth 31 rfl) rfl (lv_at hl 0 rfl) ?_
      refine gX11_343 C hR ob78 (dk DX11_tossWorth 32 rfl) ?_
      refine lv_aload_n hx hb (dk DX11_tossWorth 33 rfl) rfl (lv_at hl 0 rfl) ?_
      refine gX11_340 C hR ob78 (dk DX11_tossWorth 34 rfl) ?_
      obtain ⟨yq12, mq10, hzq11, hF⟩ := bnd_ex hF
      refine r_callVl (As := [.int (0 : Int32), .int (gI mq7 78 24), .int (gI mq7 78 23)]) (rest := []) C hR (C_M_worthOf l hl0 G (0 : Int32) (gI mq7 78 24) (gI mq7 78 23) mq7 _ _ hzq11) (by decide) (by decide) ob78 rfl wX11_346 rfl rfl (Nat.le_of_ble_eq_true rfl) hl.1 ⟨Nat.zero_le _, Nat.zero_le _⟩ (dk DX11_tossWorth 35 rfl) (fun H locs hR => ?_)
      cases hF
      exact r_lret C hrt hR (dk DX11_tossWorth 36 rfl)
    · have hF := if_t c37 hF
      refine lv_aload_n hx hb (dk DX11_tossWorth 25 rfl) rfl (lv_at hl 0 rfl) ?_
      refine lv_iconst (v := (0 : Int32)) hx hb (dk DX11_tossWorth 26 rfl) (by decide) ?_
      obtain ⟨yq15, mq13, hzq14, hF⟩ := bnd_ex hF
      refine r_callVl (As := [.int (0 : Int32)]) (rest := []) C hR (C_M_got l hl0 G (0 : Int32) mq7 _ _ hzq14) (by decide) (by decide) ob78 rfl wX11_382 rfl rfl (Nat.le_of_ble_eq_true rfl) hl.1 ⟨Nat.zero_le _, Nat.zero_le _⟩ (dk DX11_tossWorth 27 rfl) (fun H locs hR => ?_)
      refine lv_goto (tgt := 61) hx hb (dk DX11_tossWorth 28 rfl) (by decide) ?_
      cases hF
      exact r_lret C hrt hR (dk DX11_tossWorth 36 rfl)
  refine z_ifeq (tgt := 19) hx hb (dk DX11_tossWorth 8 rfl) (by decide) (fun c12 => ?_) (fun c12 => ?_)
  · have hF := if_f c12 hF
    refine lv_iconst (v := (1 : Int32)) hx hb (dk DX11_tossWorth 11 rfl) (by decide) ?_
    refine lv_iload_n hx hb (dk DX11_tossWorth 12 rfl) rfl (lv_at hl 1 rfl) ?_
    refine lv_isub hx hb (dk DX11_tossWorth 13 rfl) ?_
    exact J22 ((1 : Int32) - a1) mq1 _ _ ls (lv_sub hl [0, 2] rfl) hR hF
  · have hF := if_t c12 hF
    refine lv_iload_n hx hb (dk DX11_tossWorth 9 rfl) rfl (lv_at hl 1 rfl) ?_
    refine lv_goto (tgt := 22) hx hb (dk DX11_tossWorth 10 rfl) (by decide) ?_
    exact J22 a1 mq1 _ _ ls (lv_sub hl [0, 2] rfl) hR hF
set_option maxHeartbeats 4000000 in
set_option maxRecDepth 100000 in
theorem C_M_betterOf (l : Launch) (hl0 : l.stackTraces = false) (G : GG) (a1 : Int32) (m0 : Mem) (v : Int64) (m' : Mem) (hF : F_M_betterOf a1 m0 = some (v, m')) : Ct l G mr0 N0 yX11_betterOf cX11_betterOf 2 (some .long) 11 [.ref (G.2.1 + 78), .int a1] m0 (some (.long v)) m' := by
  refine Ct_of hl0 (by decide) (Nat.le_of_ble_eq_true rfl) ?_
  intro p e s mid args below meth c ls C hrt hl hR
  have hx := C.1.1
  have hb := C.1.2.1
  have hl : lv_has ls 2 [(0, .ref (G.2.1 + 78)), (1, .int a1)] := hl
  unfold F_M_betterOf at hF
  refine lv_aload_n hx hb (dk DX11_betterOf 0 rfl) rfl (lv_at hl 0 rfl) ?_
  refine lv_iload_n hx hb (dk DX11_betterOf 1 rfl) rfl (lv_at hl 1 rfl) ?_
  refine lv_iconst (v := (1 : Int32)) hx hb (dk DX11_betterOf 2 rfl) (by decide) ?_
  obtain ⟨yq3, mq1, hzq2, hF⟩ := bnd_ex hF
  refine r_callVl (As := [.int a1, .int (b2i true)]) (rest := []) C hR (C_M_tossWorth l hl0 G a1 true m0 _ _ hzq2) (by decide) (by decide) ob78 rfl wX11_430 rfl rfl (Nat.le_of_ble_eq_true rfl) hl.1 ⟨Nat.zero_le _, Nat.zero_le _⟩ (dk DX11_betterOf 3 rfl) (fun H locs hR => ?_)
  refine lv_aload_n hx hb (dk DX11_betterOf 4 rfl) rfl (lv_at hl 0 rfl) ?_
  refine lv_iload_n hx hb (dk DX11_betterOf 5 rfl) rfl (lv_at hl 1 rfl) ?_
  refine lv_iconst (v := (0 : Int32)) hx hb (dk DX11_betterOf 6 rfl) (by decide) ?_
  obtain ⟨yq6, mq4, hzq5, hF⟩ := bnd_ex hF
  refine r_callVl (As := [.int a1, .int (b2i false)]) (rest := [.long yq3]) C hR (C_M_tossWorth l hl0 G a1 false mq1 _ _ hzq5) (by decide) (by decide) ob78 rfl wX11_430 rfl rfl (Nat.le_of_ble_eq_true rfl) hl.1 ⟨Nat.zero_le _, Nat.zero_le _⟩ (dk DX11_betterOf 7 rfl) (fun H locs hR => ?_)
  refine r_mxL C (gd q2190 rfl) (by decide) (Nat.le_of_ble_eq_true rfl) hl.1 ⟨Nat.zero_le _, Nat.zero_le _⟩ (dk DX11_betterOf 8 rfl) ?_
  cases hF
  exact r_lret C hrt hR (dk DX11_betterOf 9 rfl)
set_option maxHeartbeats 4000000 in
set_option maxRecDepth 100000 in
theorem C_M_leftTo (l : Launch) (hl0 : l.stackTraces = false) (G : GG) (a1 : Int32) (m0 : Mem) (v : Int64) (m' : Mem) (hF : F_M_leftTo a1 m0 = some (v, m')) : Ct l G mr0 N0 yX11_leftTo cX11_leftTo 2 (some .long) 11 [.ref (G.2.1 + 78), .int a1] m0 (some (.long v)) m' := by
  refine Ct_of hl0 (by decide) (Nat.le_of_ble_eq_true rfl) ?_
  intro p e s mid args below meth c ls C hrt hl hR
  have hx := C.1.1
  have hb := C.1.2.1
  have hl : lv_has ls 2 [(0, .ref (G.2.1 + 78)), (1, .int a1)] := hl
  unfold F_M_leftTo at hF
  refine lv_aload_n hx hb (dk DX11_leftTo 0 rfl) rfl (lv_at hl 0 rfl) ?_
  refine lv_iload_n hx hb (dk DX11_leftTo 1 rfl) rfl (lv_at hl 1 rfl) ?_
  refine lv_aload_n hx hb (dk DX11_leftTo 2 rfl) rfl (lv_at hl 0 rfl) ?_
  refine lv_iconst (v := (1 : Int32)) hx hb (dk DX11_leftTo 3 rfl) (by decide) ?_
  refine lv_iload_n hx hb (dk DX11_leftTo 4 rfl) rfl (lv_at hl 1 rfl) ?_
  refine lv_isub hx hb (dk DX11_leftTo 5 rfl) ?_
  refine lv_iconst (v := (1 : Int32)) hx hb (dk DX11_leftTo 6 rfl) (by decide) ?_
  obtain ⟨yq3, mq1, hzq2, hF⟩ := bnd_ex hF
  refine r_callVl (As := [.int ((1 : Int32) - a1), .int (b2i true)]) (rest := [.int a1, .ref (G.2.1 + 78)]) C hR (C_M_tossWorth l hl0 G ((1 : Int32) - a1) true m0 _ _ hzq2) (by decide) (by decide) ob78 rfl wX11_430 rfl rfl (Nat.le_of_ble_eq_true rfl) hl.1 ⟨Nat.zero_le _, Nat.zero_le _⟩ (dk DX11_leftTo 7 rfl) (fun H locs hR => ?_)
  refine lv_aload_n hx hb (dk DX11_leftTo 8 rfl) rfl (lv_at hl 0 rfl) ?_
  refine lv_iconst (v := (1 : Int32)) hx hb (dk DX11_leftTo 9 rfl) (by decide) ?_
  refine lv_iload_n hx hb (dk DX11_leftTo 10 rfl) rfl (lv_at hl 1 rfl) ?_
  refine lv_isub hx hb (dk DX11_leftTo 11 rfl) ?_
  refine lv_iconst (v := (0 : Int32)) hx hb (dk DX11_leftTo 12 rfl) (by decide) ?_
  obtain ⟨yq6, mq4, hzq5, hF⟩ := bnd_ex hF
  refine r_callVl (As := [.int ((1 : Int32) - a1), .int (b2i false)]) (rest := [.long yq3, .int a1, .ref (G.2.1 + 78)]) C hR (C_M_tossWorth l hl0 G ((1 : Int32) - a1) false mq1 _ _ hzq5) (by decide) (by decide) ob78 rfl wX11_430 rfl rfl (Nat.le_of_ble_eq_true rfl) hl.1 ⟨Nat.zero_le _, Nat.zero_le _⟩ (dk DX11_leftTo 13 rfl) (fun H locs hR => ?_)
  obtain ⟨k27_8, ek27_8, hF⟩ := lt_ex hF
  have J27 : ∀ (zq8 : Bool) (mq7 : Mem) (H : Heap) (locs : List Loc) (ls : Array Slot), lv_has ls 2 [] → Rp G mr0 N0 mq7 s H locs → k27_8 zq8 mq7 = some (v, m') → W p l e (rmD 11) s mid args below meth c H locs 0 0 (MQ below (QR G mr0 N0 (some (.long v)) m') args s 0 0 (fun q => G.2.1 ≤ q)) (F0 mid 27 ls [.int (b2i zq8), .int a1, .ref (G.2.1 + 78)]) := by
    intro zq8 mq7 H locs ls hl hR hF
    rw [ek27_8] at hF
    obtain ⟨yq11, mq9, hzq10, hF⟩ := bnd_ex hF
    refine r_callVl (As := [.int a1, .int (b2i zq8)]) (rest := []) C hR (C_M_tossWorth l hl0 G a1 zq8 mq7 _ _ hzq10) (by decide) (by decide) ob78 rfl wX11_430 rfl rfl (Nat.le_of_ble_eq_true rfl) hl.1 ⟨Nat.zero_le _, Nat.zero_le _⟩ (dk DX11_leftTo 19 rfl) (fun H locs hR => ?_)
    cases hF
    exact r_lret C hrt hR (dk DX11_leftTo 20 rfl)
  refine l_ifge (tgt := 26) hx hb (dk DX11_leftTo 14 rfl) (dk DX11_leftTo 15 rfl) (by decide) (fun c18 => ?_) (fun c18 => ?_)
  · have hF := if_t c18 hF
    refine lv_iconst (v := (0 : Int32)) hx hb (dk DX11_leftTo 18 rfl) (by decide) ?_
    exact J27 false mq4 _ _ ls (lv_sub hl [] rfl) hR hF
  · have hF := if_f c18 hF
    refine lv_iconst (v := (1 : Int32)) hx hb (dk DX11_leftTo 16 rfl) (by decide) ?_
    refine lv_goto (tgt := 27) hx hb (dk DX11_leftTo 17 rfl) (by decide) ?_
    exact J27 true mq4 _ _ ls (lv_sub hl [] rfl) hR hF
set_option maxHeartbeats 4000000 in
set_option maxRecDepth 100000 in
theorem C_M_evens (l : Launch) (hl0 : l.stackTraces = false) (G : GG) (a1 : Int32) (m0 : Mem) (v : Int64) (m' : Mem) (hF : F_M_evens a1 m0 = some (v, m')) : Ct l G mr0 N0 yX11_evens cX11_evens 2 (some .long) 12 [.ref (G.2.1 + 78), .int a1] m0 (some (.long v)) m' := by
  refine Ct_of hl0 (by decide) (Nat.le_of_ble_eq_true rfl) ?_
  intro p e s mid args below meth c ls C hrt hl hR
  have hx := C.1.1
  have hb := C.1.2.1
  have hl : lv_has ls 2 [(0, .ref (G.2.1 + 78)), (1, .int a1)] := hl
  unfold F_M_evens at hF
  refine lv_aload_n hx hb (dk DX11_evens 0 rfl) rfl (lv_at hl 0 rfl) ?_
  refine lv_iconst (v := (0 : Int32)) hx hb (dk DX11_evens 1 rfl) (by decide) ?_
  refine pX11_3 (x := (0 : Int32)) C hR ob78 (dk DX11_evens 2 rfl) (fun H locs hR => ?_)
  obtain ⟨mq1, emq1, hF⟩ := lt_ex hF
  have hR := Rp_at emq1 hR
  refine lv_aload_n hx hb (dk DX11_evens 3 rfl) rfl (lv_at hl 0 rfl) ?_
  refine lv_iload_n hx hb (dk DX11_evens 4 rfl) rfl (lv_at hl 1 rfl) ?_
  obtain ⟨zq4, mq2, hzq3, hF⟩ := bnd_ex hF
  refine r_callSi (As := [.int a1]) (rest := [.ref (G.2.1 + 78)]) C hR (C_M_noSide l hl0 G a1 mq1 _ _ hzq3) (by decide) (by decide) wX11_243 rfl rfl (Nat.le_of_ble_eq_true rfl) hl.1 ⟨Nat.zero_le _, Nat.zero_le _⟩ (dk DX11_evens 5 rfl) (fun H locs hR => ?_)
  refine lv_iconst (v := (1 : Int32)) hx hb (dk DX11_evens 6 rfl) (by decide) ?_
  obtain ⟨zq7, mq5, hzq6, hF⟩ := bnd_ex hF
  refine r_callVi (As := [.int (b2i zq4), .int (1 : Int32)]) (rest := []) C hR (C_M_throwsIf l hl0 G zq4 (1 : Int32) mq2 _ _ hzq6) (by decide) (by decide) ob78 rfl wX11_227 rfl rfl (Nat.le_of_ble_eq_true rfl) hl.1 ⟨Nat.zero_le _, Nat.zero_le _⟩ (dk DX11_evens 7 rfl) (fun H locs hR => ?_)
  refine z_ifeq (tgt := 21) hx hb (dk DX11_evens 8 rfl) (by decide) (fun c14 => ?_) (fun c14 => ?_)
  · have hF := if_f c14 hF
    refine lv_aload_n hx hb (dk DX11_evens 11 rfl) rfl (lv_at hl 0 rfl) ?_
    refine lv_iload_n hx hb (dk DX11_evens 12 rfl) rfl (lv_at hl 1 rfl) ?_
    obtain ⟨yq10, mq8, hzq9, hF⟩ := bnd_ex hF
    refine r_callVl (As := [.int a1]) (rest := []) C hR (C_M_betterOf l hl0 G a1 mq5 _ _ hzq9) (by decide) (by decide) ob78 rfl wX11_443 rfl rfl (Nat.le_of_ble_eq_true rfl) hl.1 ⟨Nat.zero_le _, Nat.zero_le _⟩ (dk DX11_evens 13 rfl) (fun H locs hR => ?_)
    refine lv_aload_n hx hb (dk DX11_evens 14 rfl) rfl (lv_at hl 0 rfl) ?_
    refine lv_iload_n hx hb (dk DX11_evens 15 rfl) rfl (lv_at hl 1 rfl) ?_
    obtain ⟨yq13, mq11, hzq12, hF⟩ := bnd_ex hF
    refine r_callVl (As := [.int a1]) (rest := [.long yq10]) C hR (C_M_leftTo l hl0 G a1 mq8 _ _ hzq12) (by decide) (by decide) ob78 rfl wX11_440 rfl rfl (Nat.le_of_ble_eq_true rfl) hl.1 ⟨Nat.zero_le _, Nat.zero_le _⟩ (dk DX11_evens 16 rfl) (fun H locs hR => ?_)
    refine lv_ladd hx hb (dk DX11_evens 17 rfl) ?_
    cases hF
    exact r_lret C hrt hR (dk DX11_evens 18 rfl)
  · have hF := if_t c14 hF
    refine lv_lconst (v := (0 : Int64)) hx hb (dk DX11_evens 9 rfl) (by decide) ?_
    refine lv_goto (tgt := 32) hx hb (dk DX11_evens 10 rfl) (by decide) ?_
    cases hF
    exact r_lret C hrt hR (dk DX11_evens 18 rfl)
set_option maxHeartbeats 4000000 in
set_option maxRecDepth 100000 in
theorem C_M_fault (l : Launch) (hl0 : l.stackTraces = false) (G : GG) (m0 : Mem) (v : Int32) (m' : Mem) (hF : F_M_fault m0 = some (v, m')) : Ct l G mr0 N0 yX11_fault cX11_fault 1 (some .int) 1 [.ref (G.2.1 + 78)] m0 (some (.int v)) m' := by
  refine Ct_of hl0 (by decide) (Nat.le_of_ble_eq_true rfl) ?_
  intro p e s mid args below meth c ls C hrt hl hR
  have hx := C.1.1
  have hb := C.1.2.1
  have hl : lv_has ls 1 [(0, .ref (G.2.1 + 78))] := hl
  unfold F_M_fault at hF
  refine lv_aload_n hx hb (dk DX11_fault 0 rfl) rfl (lv_at hl 0 rfl) ?_
  refine lv_iconst (v := (0 : Int32)) hx hb (dk DX11_fault 1 rfl) (by decide) ?_
  refine pX11_3 (x := (0 : Int32)) C hR ob78 (dk DX11_fault 2 rfl) (fun H locs hR => ?_)
  obtain ⟨mq1, emq1, hF⟩ := lt_ex hF
  have hR := Rp_at emq1 hR
  refine lv_aload_n hx hb (dk DX11_fault 3 rfl) rfl (lv_at hl 0 rfl) ?_
  refine gX11_30 C hR ob78 (dk DX11_fault 4 rfl) ?_
  cases hF
  exact r_iret C hrt hR (dk DX11_fault 5 rfl)
set_option maxHeartbeats 4000000 in
set_option maxRecDepth 100000 in
theorem C_M_feed (l : Launch) (hl0 : l.stackTraces = false) (G : GG) (a1 : Int32) (a2 : Int32) (a3 : Int32) (a4 : Int32) (a5 : Int32) (m0 : Mem) (v : Int32) (m' : Mem) (hF : F_M_feed a1 a2 a3 a4 a5 m0 = some (v, m')) : Ct l G mr0 N0 yX11_feed cX11_feed 7 (some .int) 1 [.ref (G.2.1 + 78), .int a1, .int a2, .int a3, .int a4, .int a5] m0 (some (.int v)) m' := by
  refine Ct_of hl0 (by decide) (Nat.le_of_ble_eq_true rfl) ?_
  intro p e s mid args below meth c ls C hrt hl hR
  have hx := C.1.1
  have hb := C.1.2.1
  have hl : lv_has ls 7 [(0, .ref (G.2.1 + 78)), (1, .int a1), (2, .int a2), (3, .int a3), (4, .int a4), (5, .int a5)] := hl
  unfold F_M_feed at hF
  refine lv_aload_n hx hb (dk DX11_feed 0 rfl) rfl (lv_at hl 0 rfl) ?_
  refine lv_iconst (v := (0 : Int32)) hx hb (dk DX11_feed 1 rfl) (by decide) ?_
  refine pX11_3 (x := (0 : Int32)) C hR ob78 (dk DX11_feed 2 rfl) (fun H locs hR => ?_)
  obtain ⟨mq1, emq1, hF⟩ := lt_ex hF
  have hR := Rp_at emq1 hR
  refine lv_aload_n hx hb (dk DX11_feed 3 rfl) rfl (lv_at hl 0 rfl) ?_
  refine gX11_71 C hR ob78 (dk DX11_feed 4 rfl) ?_
  refine lv_bipush (v := (20 : Int32)) hx hb (dk DX11_feed 5 rfl) (by decide) ?_
  refine lv_iadd hx hb (dk DX11_feed 6 rfl) ?_
  refine lv_sipush (v := (400 : Int32)) hx hb (dk DX11_feed 7 rfl) (by decide) ?_
  refine lv_icmp_le (tgt := 20) hx hb (dk DX11_feed 8 rfl) (by decide) (fun c15 => ?_) (fun c15 => ?_)
  · have hF := if_t c15 hF
    refine lv_aload_n hx hb (dk DX11_feed 11 rfl) rfl (lv_at hl 0 rfl) ?_
    refine gX11_33 C hR ob78 rf78_14 (dk DX11_feed 12 rfl) ?_
    refine lv_iconst (v := (0 : Int32)) hx hb (dk DX11_feed 13 rfl) (by decide) ?_
    refine lv_iload_n hx hb (dk DX11_feed 14 rfl) rfl (lv_at hl 1 rfl) ?_
    refine r_iast C hR ob84 rfl (dk DX11_feed 15 rfl) (fun H locs hR => ?_)
    obtain ⟨mq2, emq2, hF⟩ := lt_ex hF
    have hR := Rp_at emq2 hR
    refine lv_aload_n hx hb (dk DX11_feed 16 rfl) rfl (lv_at hl 0 rfl) ?_
    refine gX11_33 C hR ob78 rf78_14 (dk DX11_feed 17 rfl) ?_
    refine lv_iconst (v := (1 : Int32)) hx hb (dk DX11_feed 18 rfl) (by decide) ?_
    refine lv_iload_n hx hb (dk DX11_feed 19 rfl) rfl (lv_at hl 2 rfl) ?_
    refine r_iast C hR ob84 rfl (dk DX11_feed 20 rfl) (fun H locs hR => ?_)
    obtain ⟨mq3, emq3, hF⟩ := lt_ex hF
    have hR := Rp_at emq3 hR
    refine lv_aload_n hx hb (dk DX11_feed 21 rfl) rfl (lv_at hl 0 rfl) ?_
    refine gX11_33 C hR ob78 rf78_14 (dk DX11_feed 22 rfl) ?_
    refine lv_iconst (v := (2 : Int32)) hx hb (dk DX11_feed 23 rfl) (by decide) ?_
    refine lv_iload_n hx hb (dk DX11_feed 24 rfl) rfl (lv_at hl 3 rfl) ?_
    refine r_iast C hR ob84 rfl (dk DX11_feed 25 rfl) (fun H locs hR => ?_)
    obtain ⟨mq4, emq4, hF⟩ := lt_ex hF
    have hR := Rp_at emq4 hR
    refine lv_aload_n hx hb (dk DX11_feed 26 rfl) rfl (lv_at hl 0 rfl) ?_
    refine gX11_33 C hR ob78 rf78_14 (dk DX11_feed 27 rfl) ?_
    refine lv_iconst (v := (3 : Int32)) hx hb (dk DX11_feed 28 rfl) (by decide) ?_
    refine lv_iload hx hb (dk DX11_feed 29 rfl) (lv_at hl 4 rfl) ?_
    refine r_iast C hR ob84 rfl (dk DX11_feed 30 rfl) (fun H locs hR => ?_)
    obtain ⟨mq5, emq5, hF⟩ := lt_ex hF
    have hR := Rp_at emq5 hR
    refine lv_aload_n hx hb (dk DX11_feed 31 rfl) rfl (lv_at hl 0 rfl) ?_
    refine gX11_33 C hR ob78 rf78_14 (dk DX11_feed 32 rfl) ?_
    refine lv_iconst (v := (4 : Int32)) hx hb (dk DX11_feed 33 rfl) (by decide) ?_
    refine lv_iload hx hb (dk DX11_feed 34 rfl) (lv_at hl 5 rfl) ?_
    refine r_iast C hR ob84 rfl (dk DX11_feed 35 rfl) (fun H locs hR => ?_)
    obtain ⟨mq6, emq6, hF⟩ := lt_ex hF
    have hR := Rp_at emq6 hR
    refine lv_iconst (v := (0 : Int32)) hx hb (dk DX11_feed 36 rfl) (by decide) ?_
    refine lv_istore (lv' := [(6, .int (0 : Int32)), (0, .ref (G.2.1 + 78)), (1, .int a1), (2, .int a2), (3, .int a3), (4, .int a4), (5, .int a5)]) hx hb (dk DX11_feed 37 rfl) hl (by decide) rfl (fun ls hl => ?_)
    obtain ⟨k106_7, ek106_7, hF⟩ := lt_ex hF
    have J106 : ∀ (mq7 : Mem) (H : Heap) (locs : List Loc) (ls : Array Slot), lv_has ls 7 [(0, .ref (G.2.1 + 78))] → Rp G mr0 N0 mq7 s H locs → k106_7  mq7 = some (v, m') → W p l e (rmD 1) s mid args below meth c H locs 0 0 (MQ below (QR G mr0 N0 (some (.int v)) m') args s 0 0 (fun q => G.2.1 ≤ q)) (F0 mid 106 ls []) := by
      intro  mq7 H locs ls hl hR hF
      rw [ek106_7] at hF
      refine lv_aload_n hx hb (dk DX11_feed 65 rfl) rfl (lv_at hl 0 rfl) ?_
      refine lv_dup hx hb (dk DX11_feed 66 rfl) rfl ?_
      refine gX11_71 C hR ob78 (dk DX11_feed 67 rfl) ?_
      refine lv_bipush (v := (20 : Int32)) hx hb (dk DX11_feed 68 rfl) (by decide) ?_
      refine lv_iadd hx hb (dk DX11_feed 69 rfl) ?_
      refine pX11_71 (x := (gI mq7 78 8) + (20 : Int32)) C hR ob78 (dk DX11_feed 70 rfl) (fun H locs hR => ?_)
      obtain ⟨mq8, emq8, hF⟩ := lt_ex hF
      have hR := Rp_at emq8 hR
      refine lv_aload_n hx hb (dk DX11_feed 71 rfl) rfl (lv_at hl 0 rfl) ?_
      refine gX11_71 C hR ob78 (dk DX11_feed 72 rfl) ?_
      cases hF
      exact r_iret C hrt hR (dk DX11_feed 73 rfl)
    have L60 : ∀ (nf : Nat) (xq10 : Int32) (mq9 : Mem) (H : Heap) (locs : List Loc) (ls : Array Slot), lv_has ls 7 [(0, .ref (G.2.1 + 78)), (6, .int xq10)] → Rp G mr0 N0 mq9 s H locs → F_M_feed_L60 k106_7 nf xq10 mq9 = some (v, m') → W p l e (rmD 1) s mid args below meth c H locs 0 0 (MQ below (QR G mr0 N0 (some (.int v)) m') args s 0 0 (fun q => G.2.1 ≤ q)) (F0 mid 60 ls []) := by
      intro nf
      induction nf with
      | zero =>
        intro xq10 mq9 H locs ls hl hR hF
        rw [F_M_feed_L60] at hF
        cases hF
      | succ nf ihq12 =>
        intro xq10 mq9 H locs ls hl hR hF
        rw [F_M_feed_L60] at hF
        refine lv_iload hx hb (dk DX11_feed 38 rfl) (lv_at hl 1 rfl) ?_
        refine lv_bipush (v := (20 : Int32)) hx hb (dk DX11_feed 39 rfl) (by decide) ?_
        refine lv_icmp_ge (tgt := 106) hx hb (dk DX11_feed 40 rfl) (by decide) (fun c64 => ?_) (fun c64 => ?_)
        · have hF := if_t c64 hF
          exact J106 mq9 _ _ ls (lv_sub hl [0] rfl) hR hF
        · have hF := if_f c64 hF
          refine lv_aload_n hx hb (dk DX11_feed 41 rfl) rfl (lv_at hl 0 rfl) ?_
          refine gX11_26 C hR ob78 rf78_7 (dk DX11_feed 42 rfl) ?_
          refine lv_aload_n hx hb (dk DX11_feed 43 rfl) rfl (lv_at hl 0 rfl) ?_
          refine gX11_71 C hR ob78 (dk DX11_feed 44 rfl) ?_
          refine lv_iload hx hb (dk DX11_feed 45 rfl) (lv_at hl 1 rfl) ?_
          refine lv_iadd hx hb (dk DX11_feed 46 rfl) ?_
          refine lv_aload_n hx hb (dk DX11_feed 47 rfl) rfl (lv_at hl 0 rfl) ?_
          refine gX11_33 C hR ob78 rf78_14 (dk DX11_feed 48 rfl) ?_
          refine lv_iload hx hb (dk DX11_feed 49 rfl) (lv_at hl 1 rfl) ?_
          refine lv_iconst (v := (4 : Int32)) hx hb (dk DX11_feed 50 rfl) (by decide) ?_
          refine lv_idiv hx hb (dk DX11_feed 51 rfl) (by decide) ?_
          obtain ⟨hq13, hF⟩ := ckB_ex hF
          refine r_iald C hR ob84 hq13 (dk DX11_feed 52 rfl) ?_
          refine lv_topi (fun xq14 exq14 => ?_)
          have hF := lt_at exq14 hF
          refine lv_bipush (v := (24 : Int32)) hx hb (dk DX11_feed 53 rfl) (by decide) ?_
          refine lv_bipush (v := (8 : Int32)) hx hb (dk DX11_feed 54 rfl) (by decide) ?_
          refine lv_iload hx hb (dk DX11_feed 55 rfl) (lv_at hl 1 rfl) ?_
          refine lv_iconst (v := (4 : Int32)) hx hb (dk DX11_feed 56 rfl) (by decide) ?_
          refine lv_irem hx hb (dk DX11_feed 57 rfl) (by decide) ?_
          refine lv_imul hx hb (dk DX11_feed 58 rfl) ?_
          refine lv_topi (fun xq15 exq15 => ?_)
          have hF := lt_at exq15 hF
          refine lv_isub hx hb (dk DX11_feed 59 rfl) ?_
          refine lv_ishr hx hb (dk DX11_feed 60 rfl) ?_
          refine lv_i2b hx hb (dk DX11_feed 61 rfl) rfl ?_
          obtain ⟨hq17, hF⟩ := ckB_ex hF
          refine r_bast C hR ob83 hq17 (dk DX11_feed 62 rfl) (fun H locs hR => ?_)
          obtain ⟨mq16, emq16, hF⟩ := lt_ex hF
          have hR := Rp_at emq16 hR
          obtain ⟨xq18, exq18, hF⟩ := lt_ex hF
          refine lv_iinc (v := xq18) (lv' := [(6, .int xq18), (0, .ref (G.2.1 + 78))]) hx hb (dk DX11_feed 63 rfl) hl (k := 1) rfl (by rw [exq18]; rfl) (by decide) rfl (fun ls hl => ?_)
          refine lv_goto (tgt := 60) hx hb (dk DX11_feed 64 rfl) (by decide) ?_
          exact ihq12 xq18 mq16 _ _ ls (lv_sub hl [1, 0] rfl) hR hF
    exact L60 1000000 (0 : Int32) mq6 _ _ ls (lv_sub hl [1, 0] rfl) hR hF
  · have hF := if_f c15 hF
    refine lv_iconst (v := (-1 : Int32)) hx hb (dk DX11_feed 9 rfl) (by decide) ?_
    cases hF
    exact r_iret C hrt hR (dk DX11_feed 10 rfl)
set_option maxHeartbeats 4000000 in
set_option maxRecDepth 100000 in
theorem C_M_follow (l : Launch) (hl0 : l.stackTraces = false) (G : GG) (m0 : Mem) (v : Int32) (m' : Mem) (hF : F_M_follow m0 = some (v, m')) : Ct l G mr0 N0 yX11_follow cX11_follow 1 (some .int) 4 [.ref (G.2.1 + 78)] m0 (some (.int v)) m' := by
  refine Ct_of hl0 (by decide) (Nat.le_of_ble_eq_true rfl) ?_
  intro p e s mid args below meth c ls C hrt hl hR
  have hx := C.1.1
  have hb := C.1.2.1
  have hl : lv_has ls 1 [(0, .ref (G.2.1 + 78))] := hl
  unfold F_M_follow at hF
  refine lv_aload_n hx hb (dk DX11_follow 0 rfl) rfl (lv_at hl 0 rfl) ?_
  refine lv_iconst (v := (0 : Int32)) hx hb (dk DX11_follow 1 rfl) (by decide) ?_
  refine pX11_3 (x := (0 : Int32)) C hR ob78 (dk DX11_follow 2 rfl) (fun H locs hR => ?_)
  obtain ⟨mq1, emq1, hF⟩ := lt_ex hF
  have hR := Rp_at emq1 hR
  refine lv_aload_n hx hb (dk DX11_follow 3 rfl) rfl (lv_at hl 0 rfl) ?_
  refine lv_aload_n hx hb (dk DX11_follow 4 rfl) rfl (lv_at hl 0 rfl) ?_
  obtain ⟨zq4, mq2, hzq3, hF⟩ := bnd_ex hF
  refine r_callVi (As := []) (rest := [.ref (G.2.1 + 78)]) C hR (C_M_canFollow l hl0 G mq1 _ _ hzq3) (by decide) (by decide) ob78 rfl wX11_291 rfl rfl (Nat.le_of_ble_eq_true rfl) hl.1 ⟨Nat.zero_le _, Nat.zero_le _⟩ (dk DX11_follow 5 rfl) (fun H locs hR => ?_)
  obtain ⟨k18_6, ek18_6, hF⟩ := lt_ex hF
  have J18 : ∀ (zq6 : Bool) (mq5 : Mem) (H : Heap) (locs : List Loc) (ls : Array Slot), lv_has ls 1 [(0, .ref (G.2.1 + 78))] → Rp G mr0 N0 mq5 s H locs → k18_6 zq6 mq5 = some (v, m') → W p l e (rmD 4) s mid args below meth c H locs 0 0 (MQ below (QR G mr0 N0 (some (.int v)) m') args s 0 0 (fun q => G.2.1 ≤ q)) (F0 mid 18 ls [.int (b2i zq6), .ref (G.2.1 + 78)]) := by
    intro zq6 mq5 H locs ls hl hR hF
    rw [ek18_6] at hF
    refine lv_iconst (v := (1 : Int32)) hx hb (dk DX11_follow 10 rfl) (by decide) ?_
    obtain ⟨zq9, mq7, hzq8, hF⟩ := bnd_ex hF
    refine r_callVi (As := [.int (b2i zq6), .int (1 : Int32)]) (rest := []) C hR (C_M_throwsIf l hl0 G zq6 (1 : Int32) mq5 _ _ hzq8) (by decide) (by decide) ob78 rfl wX11_227 rfl rfl (Nat.le_of_ble_eq_true rfl) hl.1 ⟨Nat.zero_le _, Nat.zero_le _⟩ (dk DX11_follow 11 rfl) (fun H locs hR => ?_)
    refine z_ifeq (tgt := 27) hx hb (dk DX11_follow 12 rfl) (by decide) (fun c22 => ?_) (fun c22 => ?_)
    · have hF := if_f c22 hF
      refine lv_aload_n hx hb (dk DX11_follow 15 rfl) rfl (lv_at hl 0 rfl) ?_
      obtain ⟨uq12, mq10, hzq11, hF⟩ := bnd_ex hF
      refine r_callVv (As := []) (rest := []) C hR (C_M_remembers l hl0 G mq7 _ _ hzq11) (by decide) (by decide) ob78 rfl wX11_294 rfl rfl (Nat.le_of_ble_eq_true rfl) hl.1 ⟨Nat.zero_le _, Nat.zero_le _⟩ (dk DX11_follow 16 rfl) (fun H locs hR => ?_)
      refine lv_aload_n hx hb (dk DX11_follow 17 rfl) rfl (lv_at hl 0 rfl) ?_
      refine gX11_13 C hR ob78 rf78_1 (dk DX11_follow 18 rfl) ?_
      refine lv_bipush (v := (12 : Int32)) hx hb (dk DX11_follow 19 rfl) (by decide) ?_
      refine lv_iconst (v := (1 : Int32)) hx hb (dk DX11_follow 20 rfl) (by decide) ?_
      refine r_iast C hR ob79 rfl (dk DX11_follow 21 rfl) (fun H locs hR => ?_)
      obtain ⟨mq13, emq13, hF⟩ := lt_ex hF
      have hR := Rp_at emq13 hR
      refine lv_aload_n hx hb (dk DX11_follow 22 rfl) rfl (lv_at hl 0 rfl) ?_
      refine lv_aload_n hx hb (dk DX11_follow 23 rfl) rfl (lv_at hl 0 rfl) ?_
      obtain ⟨xq16, mq14, hzq15, hF⟩ := bnd_ex hF
      refine r_callVi (As := []) (rest := [.ref (G.2.1 + 78)]) C hR (C_M_firstSide l hl0 G mq13 _ _ hzq15) (by decide) (by decide) ob78 rfl wX11_265 rfl rfl (Nat.le_of_ble_eq_true rfl) hl.1 ⟨Nat.zero_le _, Nat.zero_le _⟩ (dk DX11_follow 24 rfl) (fun H locs hR => ?_)
      obtain ⟨xq19, mq17, hzq18, hF⟩ := bnd_ex hF
      refine r_callVi (As := [.int xq16]) (rest := []) C hR (C_M_leadOf l hl0 G xq16 mq14 _ _ hzq18) (by decide) (by decide) ob78 rfl wX11_281 rfl rfl (Nat.le_of_ble_eq_true rfl) hl.1 ⟨Nat.zero_le _, Nat.zero_le _⟩ (dk DX11_follow 25 rfl) (fun H locs hR => ?_)
      cases hF
      exact r_iret C hrt hR (dk DX11_follow 26 rfl)
    · have hF := if_t c22 hF
      refine lv_iconst (v := (0 : Int32)) hx hb (dk DX11_follow 13 rfl) (by decide) ?_
      cases hF
      exact r_iret C hrt hR (dk DX11_follow 14 rfl)
  refine z_ifne (tgt := 17) hx hb (dk DX11_follow 6 rfl) (by decide) (fun c10 => ?_) (fun c10 => ?_)
  · have hF := if_t c10 hF
    refine lv_iconst (v := (0 : Int32)) hx hb (dk DX11_follow 9 rfl) (by decide) ?_
    exact J18 false mq2 _ _ ls (lv_sub hl [0] rfl) hR hF
  · have hF := if_f c10 hF
    refine lv_iconst (v := (1 : Int32)) hx hb (dk DX11_follow 7 rfl) (by decide) ?_
    refine lv_goto (tgt := 18) hx hb (dk DX11_follow 8 rfl) (by decide) ?_
    exact J18 true mq2 _ _ ls (lv_sub hl [0] rfl) hR hF
set_option maxHeartbeats 4000000 in
set_option maxRecDepth 100000 in
theorem C_M_ofLog (l : Launch) (hl0 : l.stackTraces = false) (G : GG) (a1 : Int32) (a2 : Int32) (m0 : Mem) (v : Int32) (m' : Mem) (hF : F_M_ofLog a1 a2 m0 = some (v, m')) : Ct l G mr0 N0 yX11_ofLog cX11_ofLog 3 (some .int) 1 [.ref (G.2.1 + 78), .int a1, .int a2] m0 (some (.int v)) m' := by
  refine Ct_of hl0 (by decide) (Nat.le_of_ble_eq_true rfl) ?_
  intro p e s mid args below meth c ls C hrt hl hR
  have hx := C.1.1
  have hb := C.1.2.1
  have hl : lv_has ls 3 [(0, .ref (G.2.1 + 78)), (1, .int a1), (2, .int a2)] := hl
  unfold F_M_ofLog at hF
  refine lv_aload_n hx hb (dk DX11_ofLog 0 rfl) rfl (lv_at hl 0 rfl) ?_
  refine gX11_13 C hR ob78 rf78_1 (dk DX11_ofLog 1 rfl) ?_
  refine lv_sipush (v := (235 : Int32)) hx hb (dk DX11_ofLog 2 rfl) (by decide) ?_
  refine lv_bipush (v := (7 : Int32)) hx hb (dk DX11_ofLog 3 rfl) (by decide) ?_
  refine lv_iload_n hx hb (dk DX11_ofLog 4 rfl) rfl (lv_at hl 1 rfl) ?_
  refine lv_imul hx hb (dk DX11_ofLog 5 rfl) ?_
  refine lv_iadd hx hb (dk DX11_ofLog 6 rfl) ?_
  refine lv_iload_n hx hb (dk DX11_ofLog 7 rfl) rfl (lv_at hl 2 rfl) ?_
  refine lv_iadd hx hb (dk DX11_ofLog 8 rfl) ?_
  obtain ⟨hq1, hF⟩ := ckB_ex hF
  refine r_iald C hR ob79 hq1 (dk DX11_ofLog 9 rfl) ?_
  refine lv_topi (fun xq2 exq2 => ?_)
  have hF := lt_at exq2 hF
  cases hF
  exact r_iret C hrt hR (dk DX11_ofLog 10 rfl)
set_option maxHeartbeats 4000000 in
set_option maxRecDepth 100000 in
theorem C_M_form (l : Launch) (hl0 : l.stackTraces = false) (G : GG) (a1 : Int32) (a2 : Int32) (m0 : Mem) (v : Int32) (m' : Mem) (hF : F_M_form a1 a2 m0 = some (v, m')) : Ct l G mr0 N0 yX11_form cX11_form 5 (some .int) 3 [.ref (G.2.1 + 78), .int a1, .int a2] m0 (some (.int v)) m' := by
  refine Ct_of hl0 (by decide) (Nat.le_of_ble_eq_true rfl) ?_
  intro p e s mid args below meth c ls C hrt hl hR
  have hx := C.1.1
  have hb := C.1.2.1
  have hl : lv_has ls 5 [(0, .ref (G.2.1 + 78)), (1, .int a1), (2, .int a2)] := hl
  unfold F_M_form at hF
  refine lv_aload_n hx hb (dk DX11_form 0 rfl) rfl (lv_at hl 0 rfl) ?_
  refine lv_iconst (v := (0 : Int32)) hx hb (dk DX11_form 1 rfl) (by decide) ?_
  refine pX11_3 (x := (0 : Int32)) C hR ob78 (dk DX11_form 2 rfl) (fun H locs hR => ?_)
  obtain ⟨mq1, emq1, hF⟩ := lt_ex hF
  have hR := Rp_at emq1 hR
  refine lv_aload_n hx hb (dk DX11_form 3 rfl) rfl (lv_at hl 0 rfl) ?_
  refine lv_iload_n hx hb (dk DX11_form 4 rfl) rfl (lv_at hl 1 rfl) ?_
  obtain ⟨zq4, mq2, hzq3, hF⟩ := bnd_ex hF
  refine r_callSi (As := [.int a1]) (rest := [.ref (G.2.1 + 78)]) C hR (C_M_noSide l hl0 G a1 mq1 _ _ hzq3) (by decide) (by decide) wX11_243 rfl rfl (Nat.le_of_ble_eq_true rfl) hl.1 ⟨Nat.zero_le _, Nat.zero_le _⟩ (dk DX11_form 5 rfl) (fun H locs hR => ?_)
  refine lv_iconst (v := (1 : Int32)) hx hb (dk DX11_form 6 rfl) (by decide) ?_
  obtain ⟨zq7, mq5, hzq6, hF⟩ := bnd_ex hF
  refine r_callVi (As := [.int (b2i zq4), .int (1 : Int32)]) (rest := []) C hR (C_M_throwsIf l hl0 G zq4 (1 : Int32) mq2 _ _ hzq6) (by decide) (by decide) ob78 rfl wX11_227 rfl rfl (Nat.le_of_ble_eq_true rfl) hl.1 ⟨Nat.zero_le _, Nat.zero_le _⟩ (dk DX11_form 7 rfl) (fun H locs hR => ?_)
  refine z_ifne (tgt := 39) hx hb (dk DX11_form 8 rfl) (by decide) (fun c14 => ?_) (fun c14 => ?_)
  · have hF := if_t c14 hF
    refine lv_iconst (v := (0 : Int32)) hx hb (dk DX11_form 21 rfl) (by decide) ?_
    cases hF
    exact r_iret C hrt hR (dk DX11_form 22 rfl)
  · have hF := if_f c14 hF
    refine lv_aload_n hx hb (dk DX11_form 9 rfl) rfl (lv_at hl 0 rfl) ?_
    refine lv_iload_n hx hb (dk DX11_form 10 rfl) rfl (lv_at hl 2 rfl) ?_
    refine lv_iconst (v := (0 : Int32)) hx hb (dk DX11_form 11 rfl) (by decide) ?_
    refine lv_iconst (v := (2 : Int32)) hx hb (dk DX11_form 12 rfl) (by decide) ?_
    obtain ⟨zq10, mq8, hzq9, hF⟩ := bnd_ex hF
    refine r_callSi (As := [.int a2, .int (0 : Int32), .int (2 : Int32)]) (rest := [.ref (G.2.1 + 78)]) C hR (C_M_in l hl0 G a2 (0 : Int32) (2 : Int32) mq5 _ _ hzq9) (by decide) (by decide) wX11_67 rfl rfl (Nat.le_of_ble_eq_true rfl) hl.1 ⟨Nat.zero_le _, Nat.zero_le _⟩ (dk DX11_form 13 rfl) (fun H locs hR => ?_)
    obtain ⟨k32_12, ek32_12, hF⟩ := lt_ex hF
    have J32 : ∀ (zq12 : Bool) (mq11 : Mem) (H : Heap) (locs : List Loc) (ls : Array Slot), lv_has ls 5 [(0, .ref (G.2.1 + 78)), (1, .int a1), (2, .int a2)] → Rp G mr0 N0 mq11 s H locs → k32_12 zq12 mq11 = some (v, m') → W p l e (rmD 3) s mid args below meth c H locs 0 0 (MQ below (QR G mr0 N0 (some (.int v)) m') args s 0 0 (fun q => G.2.1 ≤ q)) (F0 mid 32 ls [.int (b2i zq12), .ref (G.2.1 + 78)]) := by
      intro zq12 mq11 H locs ls hl hR hF
      rw [ek32_12] at hF
      refine lv_iconst (v := (2 : Int32)) hx hb (dk DX11_form 18 rfl) (by decide) ?_
      obtain ⟨zq15, mq13, hzq14, hF⟩ := bnd_ex hF
      refine r_callVi (As := [.int (b2i zq12), .int (2 : Int32)]) (rest := []) C hR (C_M_throwsIf l hl0 G zq12 (2 : Int32) mq11 _ _ hzq14) (by decide) (by decide) ob78 rfl wX11_227 rfl rfl (Nat.le_of_ble_eq_true rfl) hl.1 ⟨Nat.zero_le _, Nat.zero_le _⟩ (dk DX11_form 19 rfl) (fun H locs hR => ?_)
      refine z_ifeq (tgt := 41) hx hb (dk DX11_form 20 rfl) (by decide) (fun c36 => ?_) (fun c36 => ?_)
      · have hF := if_f c36 hF
        refine lv_iconst (v := (0 : Int32)) hx hb (dk DX11_form 23 rfl) (by decide) ?_
        refine lv_istore_n (lv' := [(3, .int (0 : Int32)), (0, .ref (G.2.1 + 78)), (1, .int a1), (2, .int a2)]) hx hb (dk DX11_form 24 rfl) rfl hl (by decide) rfl (fun ls hl => ?_)
        refine lv_iconst (v := (0 : Int32)) hx hb (dk DX11_form 25 rfl) (by decide) ?_
        refine lv_istore (lv' := [(4, .int (0 : Int32)), (3, .int (0 : Int32)), (0, .ref (G.2.1 + 78)), (1, .int a1), (2, .int a2)]) hx hb (dk DX11_form 26 rfl) hl (by decide) rfl (fun ls hl => ?_)
        have L46 : ∀ (nf : Nat) (xq17 : Int32) (xq18 : Int32) (mq16 : Mem) (H : Heap) (locs : List Loc) (ls : Array Slot), lv_has ls 5 [(0, .ref (G.2.1 + 78)), (1, .int a1), (2, .int a2), (3, .int xq17), (4, .int xq18)] → Rp G mr0 N0 mq16 s H locs → F_M_form_L46 a1 a2 nf xq17 xq18 mq16 = some (v, m') → W p l e (rmD 3) s mid args below meth c H locs 0 0 (MQ below (QR G mr0 N0 (some (.int v)) m') args s 0 0 (fun q => G.2.1 ≤ q)) (F0 mid 46 ls []) := by
          intro nf
          induction nf with
          | zero =>
            intro xq17 xq18 mq16 H locs ls hl hR hF
            rw [F_M_form_L46] at hF
            cases hF
          | succ nf ihq20 =>
            intro xq17 xq18 mq16 H locs ls hl hR hF
            rw [F_M_form_L46] at hF
            refine lv_iload hx hb (dk DX11_form 27 rfl) (lv_at hl 4 rfl) ?_
            refine lv_aload_n hx hb (dk DX11_form 28 rfl) rfl (lv_at hl 0 rfl) ?_
            obtain ⟨xq23, mq21, hzq22, hF⟩ := bnd_ex hF
            refine r_callVi (As := []) (rest := [.int xq18]) C hR (C_M_played l hl0 G mq16 _ _ hzq22) (by decide) (by decide) ob78 rfl wX11_288 rfl rfl (Nat.le_of_ble_eq_true rfl) hl.1 ⟨Nat.zero_le _, Nat.zero_le _⟩ (dk DX11_form 29 rfl) (fun H locs hR => ?_)
            refine lv_icmp_ge (tgt := 95) hx hb (dk DX11_form 30 rfl) (by decide) (fun c52 => ?_) (fun c52 => ?_)
            · have hF := if_t c52 hF
              refine lv_iload_n hx hb (dk DX11_form 53 rfl) rfl (lv_at hl 3 rfl) ?_
              cases hF
              exact r_iret C hrt hR (dk DX11_form 54 rfl)
            · have hF := if_f c52 hF
              refine lv_iload_n hx hb (dk DX11_form 31 rfl) rfl (lv_at hl 3 rfl) ?_
              refine lv_iload hx hb (dk DX11_form 32 rfl) (lv_at hl 4 rfl) ?_
              refine lv_iconst (v := (3 : Int32)) hx hb (dk DX11_form 33 rfl) (by decide) ?_
              refine lv_idiv hx hb (dk DX11_form 34 rfl) (by decide) ?_
              refine lv_iload_n hx hb (dk DX11_form 35 rfl) rfl (lv_at hl 2 rfl) ?_
              obtain ⟨k87_25, ek87_25, hF⟩ := lt_ex hF
              have J87 : ∀ (xq25 : Int32) (mq24 : Mem) (H : Heap) (locs : List Loc) (ls : Array Slot), lv_has ls 5 [(0, .ref (G.2.1 + 78)), (1, .int a1), (2, .int a2), (4, .int xq18)] → Rp G mr0 N0 mq24 s H locs → k87_25 xq25 mq24 = some (v, m') → W p l e (rmD 3) s mid args below meth c H locs 0 0 (MQ below (QR G mr0 N0 (some (.int v)) m') args s 0 0 (fun q => G.2.1 ≤ q)) (F0 mid 87 ls [.int xq25, .int xq17]) := by
                intro xq25 mq24 H locs ls hl hR hF
                rw [ek87_25] at hF
                refine lv_iadd hx hb (dk DX11_form 49 rfl) ?_
                refine lv_topi (fun xq26 exq26 => ?_)
                have hF := lt_at exq26 hF
                refine lv_istore_n (lv' := [(3, .int xq26), (0, .ref (G.2.1 + 78)), (1, .int a1), (2, .int a2), (4, .int xq18)]) hx hb (dk DX11_form 50 rfl) rfl hl (by decide) rfl (fun ls hl => ?_)
                obtain ⟨xq27, exq27, hF⟩ := lt_ex hF
                refine lv_iinc (v := xq27) (lv' := [(4, .int xq27), (3, .int xq26), (0, .ref (G.2.1 + 78)), (1, .int a1), (2, .int a2)]) hx hb (dk DX11_form 51 rfl) hl (k := 4) rfl (by rw [exq27]; rfl) (by decide) rfl (fun ls hl => ?_)
                refine lv_goto (tgt := 46) hx hb (dk DX11_form 52 rfl) (by decide) ?_
                exact ihq20 xq26 xq27 mq24 _ _ ls (lv_sub hl [2, 3, 4, 1, 0] rfl) hR hF
              obtain ⟨k86_28, ek86_28, hF⟩ := lt_ex hF
              have J86 : ∀ (mq28 : Mem) (H : Heap) (locs : List Loc) (ls : Array Slot), lv_has ls 5 [(0, .ref (G.2.1 + 78)), (1, .int a1), (2, .int a2), (4, .int xq18)] → Rp G mr0 N0 mq28 s H locs → k86_28  mq28 = some (v, m') → W p l e (rmD 3) s mid args below meth c H locs 0 0 (MQ below (QR G mr0 N0 (some (.int v)) m') args s 0 0 (fun q => G.2.1 ≤ q)) (F0 mid 86 ls [.int xq17]) := by
                intro  mq28 H locs ls hl hR hF
                rw [ek86_28] at hF
                refine lv_iconst (v := (0 : Int32)) hx hb (dk DX11_form 48 rfl) (by decide) ?_
                exact J87 (0 : Int32) mq28 _ _ ls (lv_sub hl [0, 1, 2, 3] rfl) hR hF
              refine lv_icmp_ne (tgt := 86) hx hb (dk DX11_form 36 rfl) (by decide) (fun c61 => ?_) (fun c61 => ?_)
              · have hF := if_f c61 hF
                exact J86 mq21 _ _ ls (lv_sub hl [0, 1, 2, 4] rfl) hR hF
              · have hF := if_t c61 hF
                refine lv_aload_n hx hb (dk DX11_form 37 rfl) rfl (lv_at hl 0 rfl) ?_
                refine lv_iload hx hb (dk DX11_form 38 rfl) (lv_at hl 4 rfl) ?_
                refine lv_iconst (v := (1 : Int32)) hx hb (dk DX11_form 39 rfl) (by decide) ?_
                obtain ⟨xq31, mq29, hzq30, hF⟩ := bnd_ex hF
                refine r_callVi (As := [.int xq18, .int (1 : Int32)]) (rest := [.int xq17]) C hR (C_M_ofLog l hl0 G xq18 (1 : Int32) mq21 _ _ hzq30) (by decide) (by decide) ob78 rfl wX11_486 rfl rfl (Nat.le_of_ble_eq_true rfl) hl.1 ⟨Nat.zero_le _, Nat.zero_le _⟩ (dk DX11_form 40 rfl) (fun H locs hR => ?_)
                refine lv_iload_n hx hb (dk DX11_form 41 rfl) rfl (lv_at hl 1 rfl) ?_
                refine lv_icmp_ne (tgt := 86) hx hb (dk DX11_form 42 rfl) (by decide) (fun c72 => ?_) (fun c72 => ?_)
                · have hF := if_f c72 hF
                  exact J86 mq29 _ _ ls (lv_sub hl [0, 1, 2, 4] rfl) hR hF
                · have hF := if_t c72 hF
                  refine lv_aload_n hx hb (dk DX11_form 43 rfl) rfl (lv_at hl 0 rfl) ?_
                  refine lv_iload hx hb (dk DX11_form 44 rfl) (lv_at hl 4 rfl) ?_
                  refine lv_bipush (v := (6 : Int32)) hx hb (dk DX11_form 45 rfl) (by decide) ?_
                  obtain ⟨xq34, mq32, hzq33, hF⟩ := bnd_ex hF
                  refine r_callVi (As := [.int xq18, .int (6 : Int32)]) (rest := [.int xq17]) C hR (C_M_ofLog l hl0 G xq18 (6 : Int32) mq29 _ _ hzq33) (by decide) (by decide) ob78 rfl wX11_486 rfl rfl (Nat.le_of_ble_eq_true rfl) hl.1 ⟨Nat.zero_le _, Nat.zero_le _⟩ (dk DX11_form 46 rfl) (fun H locs hR => ?_)
                  refine lv_goto (tgt := 87) hx hb (dk DX11_form 47 rfl) (by decide) ?_
                  exact J87 xq34 mq32 _ _ ls (lv_sub hl [0, 1, 2, 4] rfl) hR hF
        exact L46 1000000 (0 : Int32) (0 : Int32) mq13 _ _ ls (lv_sub hl [2, 3, 4, 1, 0] rfl) hR hF
      · have hF := if_t c36 hF
        refine lv_iconst (v := (0 : Int32)) hx hb (dk DX11_form 21 rfl) (by decide) ?_
        cases hF
        exact r_iret C hrt hR (dk DX11_form 22 rfl)
    refine z_ifne (tgt := 31) hx hb (dk DX11_form 14 rfl) (by decide) (fun c24 => ?_) (fun c24 => ?_)
    · have hF := if_t c24 hF
      refine lv_iconst (v := (0 : Int32)) hx hb (dk DX11_form 17 rfl) (by decide) ?_
      exact J32 false mq8 _ _ ls (lv_sub hl [0, 1, 2] rfl) hR hF
    · have hF := if_f c24 hF
      refine lv_iconst (v := (1 : Int32)) hx hb (dk DX11_form 15 rfl) (by decide) ?_
      refine lv_goto (tgt := 32) hx hb (dk DX11_form 16 rfl) (by decide) ?_
      exact J32 true mq8 _ _ ls (lv_sub hl [0, 1, 2] rfl) hR hF
set_option maxHeartbeats 4000000 in
set_option maxRecDepth 100000 in
theorem C_M_isAt (l : Launch) (hl0 : l.stackTraces = false) (G : GG) (a1 : Int32) (a2 : Int32) (m0 : Mem) (v : Bool) (m' : Mem) (hF : F_M_isAt a1 a2 m0 = some (v, m')) : Ct l G mr0 N0 yX11_isAt cX11_isAt 3 (some .boolean) 1 [.ref (G.2.1 + 78), .int a1, .int a2] m0 (some (.int (b2i v))) m' := by
  refine Ct_of hl0 (by decide) (Nat.le_of_ble_eq_true rfl) ?_
  intro p e s mid args below meth c ls C hrt hl hR
  have hx := C.1.1
  have hb := C.1.2.1
  have hl : lv_has ls 3 [(0, .ref (G.2.1 + 78)), (1, .int a1), (2, .int a2)] := hl
  unfold F_M_isAt at hF
  refine lv_aload_n hx hb (dk DX11_isAt 0 rfl) rfl (lv_at hl 0 rfl) ?_
  refine gX11_74 C hR ob78 (dk DX11_isAt 1 rfl) ?_
  refine lv_aload_n hx hb (dk DX11_isAt 2 rfl) rfl (lv_at hl 0 rfl) ?_
  refine gX11_77 C hR ob78 (dk DX11_isAt 3 rfl) ?_
  refine lv_icmp_ge (tgt := 41) hx hb (dk DX11_isAt 4 rfl) (by decide) (fun c8 => ?_) (fun c8 => ?_)
  · have hF := if_t c8 hF
    refine lv_iconst (v := (0 : Int32)) hx hb (dk DX11_isAt 21 rfl) (by decide) ?_
    cases hF
    exact r_zret C hrt hR (dk DX11_isAt 22 rfl)
  · have hF := if_f c8 hF
    refine lv_aload_n hx hb (dk DX11_isAt 5 rfl) rfl (lv_at hl 0 rfl) ?_
    refine gX11_26 C hR ob78 rf78_7 (dk DX11_isAt 6 rfl) ?_
    refine lv_aload_n hx hb (dk DX11_isAt 7 rfl) rfl (lv_at hl 0 rfl) ?_
    refine gX11_74 C hR ob78 (dk DX11_isAt 8 rfl) ?_
    obtain ⟨hq1, hF⟩ := ckB_ex hF
    refine r_bald C hR ob83 hq1 (dk DX11_isAt 9 rfl) ?_
    refine lv_topi (fun xq2 exq2 => ?_)
    have hF := lt_at exq2 hF
    refine lv_iload_n hx hb (dk DX11_isAt 10 rfl) rfl (lv_at hl 1 rfl) ?_
    refine lv_icmp_lt (tgt := 41) hx hb (dk DX11_isAt 11 rfl) (by decide) (fun c21 => ?_) (fun c21 => ?_)
    · have hF := if_t c21 hF
      refine lv_iconst (v := (0 : Int32)) hx hb (dk DX11_isAt 21 rfl) (by decide) ?_
      cases hF
      exact r_zret C hrt hR (dk DX11_isAt 22 rfl)
    · have hF := if_f c21 hF
      refine lv_aload_n hx hb (dk DX11_isAt 12 rfl) rfl (lv_at hl 0 rfl) ?_
      refine gX11_26 C hR ob78 rf78_7 (dk DX11_isAt 13 rfl) ?_
      refine lv_aload_n hx hb (dk DX11_isAt 14 rfl) rfl (lv_at hl 0 rfl) ?_
      refine gX11_74 C hR ob78 (dk DX11_isAt 15 rfl) ?_
      obtain ⟨hq3, hF⟩ := ckB_ex hF
      refine r_bald C hR ob83 hq3 (dk DX11_isAt 16 rfl) ?_
      refine lv_topi (fun xq4 exq4 => ?_)
      have hF := lt_at exq4 hF
      refine lv_iload_n hx hb (dk DX11_isAt 17 rfl) rfl (lv_at hl 2 rfl) ?_
      refine lv_icmp_gt (tgt := 41) hx hb (dk DX11_isAt 18 rfl) (by decide) (fun c34 => ?_) (fun c34 => ?_)
      · have hF := if_t c34 hF
        refine lv_iconst (v := (0 : Int32)) hx hb (dk DX11_isAt 21 rfl) (by decide) ?_
        cases hF
        exact r_zret C hrt hR (dk DX11_isAt 22 rfl)
      · have hF := if_f c34 hF
        refine lv_iconst (v := (1 : Int32)) hx hb (dk DX11_isAt 19 rfl) (by decide) ?_
        refine lv_goto (tgt := 42) hx hb (dk DX11_isAt 20 rfl) (by decide) ?_
        cases hF
        exact r_zret C hrt hR (dk DX11_isAt 22 rfl)
set_option maxHeartbeats 4000000 in
set_option maxRecDepth 100000 in
theorem C_M_blanks (l : Launch) (hl0 : l.stackTraces = false) (G : GG) (m0 : Mem) (v : Unit) (m' : Mem) (hF : F_M_blanks m0 = some (v, m')) : Ct l G mr0 N0 yX11_blanks cX11_blanks 1 none 2 [.ref (G.2.1 + 78)] m0 none m' := by
  refine Ct_of hl0 (by decide) (Nat.le_of_ble_eq_true rfl) ?_
  intro p e s mid args below meth c ls C hrt hl hR
  have hx := C.1.1
  have hb := C.1.2.1
  have hl : lv_has ls 1 [(0, .ref (G.2.1 + 78))] := hl
  unfold F_M_blanks at hF
  obtain ⟨k24_1, ek24_1, hF⟩ := lt_ex hF
  have J24 : ∀ (mq1 : Mem) (H : Heap) (locs : List Loc) (ls : Array Slot), lv_has ls 1 [(0, .ref (G.2.1 + 78))] → Rp G mr0 N0 mq1 s H locs → k24_1  mq1 = some (v, m') → W p l e (rmD 2) s mid args below meth c H locs 0 0 (MQ below (QR G mr0 N0 none m') args s 0 0 (fun q => G.2.1 ≤ q)) (F0 mid 24 ls []) := by
    intro  mq1 H locs ls hl hR hF
    rw [ek24_1] at hF
    refine lv_aload_n hx hb (dk DX11_blanks 12 rfl) rfl (lv_at hl 0 rfl) ?_
    refine lv_aload_n hx hb (dk DX11_blanks 13 rfl) rfl (lv_at hl 0 rfl) ?_
    refine gX11_74 C hR ob78 (dk DX11_blanks 14 rfl) ?_
    refine pX11_84 (x := gI mq1 78 9) C hR ob78 (dk DX11_blanks 15 rfl) (fun H locs hR => ?_)
    obtain ⟨mq2, emq2, hF⟩ := lt_ex hF
    have hR := Rp_at emq2 hR
    cases hF
    exact r_vret C hrt hR (dk DX11_blanks 16 rfl)
  have L0 : ∀ (nf : Nat) (mq3 : Mem) (H : Heap) (locs : List Loc) (ls : Array Slot), lv_has ls 1 [(0, .ref (G.2.1 + 78))] → Rp G mr0 N0 mq3 s H locs → F_M_blanks_L0 k24_1 nf mq3 = some (v, m') → W p l e (rmD 2) s mid args below meth c H locs 0 0 (MQ below (QR G mr0 N0 none m') args s 0 0 (fun q => G.2.1 ≤ q)) (F0 mid 0 ls []) := by
    intro nf
    induction nf with
    | zero =>
      intro mq3 H locs ls hl hR hF
      rw [F_M_blanks_L0] at hF
      cases hF
    | succ nf ihq5 =>
      intro mq3 H locs ls hl hR hF
      rw [F_M_blanks_L0] at hF
      refine lv_aload_n hx hb (dk DX11_blanks 0 rfl) rfl (lv_at hl 0 rfl) ?_
      refine lv_bipush (v := (32 : Int32)) hx hb (dk DX11_blanks 1 rfl) (by decide) ?_
      refine lv_bipush (v := (32 : Int32)) hx hb (dk DX11_blanks 2 rfl) (by decide) ?_
      obtain ⟨zq8, mq6, hzq7, hF⟩ := bnd_ex hF
      refine r_callVi (As := [.int (32 : Int32), .int (32 : Int32)]) (rest := []) C hR (C_M_isAt l hl0 G (32 : Int32) (32 : Int32) mq3 _ _ hzq7) (by decide) (by decide) ob78 rfl wX11_80 rfl rfl (Nat.le_of_ble_eq_true rfl) hl.1 ⟨Nat.zero_le _, Nat.zero_le _⟩ (dk DX11_blanks 3 rfl) (fun H locs hR => ?_)
      refine z_ifeq (tgt := 24) hx hb (dk DX11_blanks 4 rfl) (by decide) (fun c8 => ?_) (fun c8 => ?_)
      · have hF := if_f c8 hF
        exact J24 mq6 _ _ ls (lv_sub hl [0] rfl) hR hF
      · have hF := if_t c8 hF
        refine lv_aload_n hx hb (dk DX11_blanks 5 rfl) rfl (lv_at hl 0 rfl) ?_
        refine lv_dup hx hb (dk DX11_blanks 6 rfl) rfl ?_
        refine gX11_74 C hR ob78 (dk DX11_blanks 7 rfl) ?_
        refine lv_iconst (v := (1 : Int32)) hx hb (dk DX11_blanks 8 rfl) (by decide) ?_
        refine lv_iadd hx hb (dk DX11_blanks 9 rfl) ?_
        refine pX11_74 (x := (gI mq6 78 9) + (1 : Int32)) C hR ob78 (dk DX11_blanks 10 rfl) (fun H locs hR => ?_)
        obtain ⟨mq9, emq9, hF⟩ := lt_ex hF
        have hR := Rp_at emq9 hR
        refine lv_goto (tgt := 0) hx hb (dk DX11_blanks 11 rfl) (by decide) ?_
        exact ihq5 mq9 _ _ ls (lv_sub hl [0] rfl) hR hF
  exact L0 1000000 m0 _ _ ls (lv_sub hl [0] rfl) hR hF
set_option maxHeartbeats 4000000 in
set_option maxRecDepth 100000 in
theorem C_M_letters (l : Launch) (hl0 : l.stackTraces = false) (G : GG) (m0 : Mem) (v : Unit) (m' : Mem) (hF : F_M_letters m0 = some (v, m')) : Ct l G mr0 N0 yX11_letters cX11_letters 1 none 3 [.ref (G.2.1 + 78)] m0 none m' := by
  refine Ct_of hl0 (by decide) (Nat.le_of_ble_eq_true rfl) ?_
  intro p e s mid args below meth c ls C hrt hl hR
  have hx := C.1.1
  have hb := C.1.2.1
  have hl : lv_has ls 1 [(0, .ref (G.2.1 + 78))] := hl
  unfold F_M_letters at hF
  refine lv_aload_n hx hb (dk DX11_letters 0 rfl) rfl (lv_at hl 0 rfl) ?_
  obtain ⟨uq3, mq1, hzq2, hF⟩ := bnd_ex hF
  refine r_callVv (As := []) (rest := []) C hR (C_M_blanks l hl0 G m0 _ _ hzq2) (by decide) (by decide) ob78 rfl wX11_87 rfl rfl (Nat.le_of_ble_eq_true rfl) hl.1 ⟨Nat.zero_le _, Nat.zero_le _⟩ (dk DX11_letters 1 rfl) (fun H locs hR => ?_)
  have L4 : ∀ (nf : Nat) (mq4 : Mem) (H : Heap) (locs : List Loc) (ls : Array Slot), lv_has ls 1 [(0, .ref (G.2.1 + 78))] → Rp G mr0 N0 mq4 s H locs → F_M_letters_L4 nf mq4 = some (v, m') → W p l e (rmD 3) s mid args below meth c H locs 0 0 (MQ below (QR G mr0 N0 none m') args s 0 0 (fun q => G.2.1 ≤ q)) (F0 mid 4 ls []) := by
    intro nf
    induction nf with
    | zero =>
      intro mq4 H locs ls hl hR hF
      rw [F_M_letters_L4] at hF
      cases hF
    | succ nf ihq6 =>
      intro mq4 H locs ls hl hR hF
      rw [F_M_letters_L4] at hF
      refine lv_aload_n hx hb (dk DX11_letters 2 rfl) rfl (lv_at hl 0 rfl) ?_
      refine lv_bipush (v := (97 : Int32)) hx hb (dk DX11_letters 3 rfl) (by decide) ?_
      refine lv_bipush (v := (122 : Int32)) hx hb (dk DX11_letters 4 rfl) (by decide) ?_
      obtain ⟨zq9, mq7, hzq8, hF⟩ := bnd_ex hF
      refine r_callVi (As := [.int (97 : Int32), .int (122 : Int32)]) (rest := []) C hR (C_M_isAt l hl0 G (97 : Int32) (122 : Int32) mq4 _ _ hzq8) (by decide) (by decide) ob78 rfl wX11_80 rfl rfl (Nat.le_of_ble_eq_true rfl) hl.1 ⟨Nat.zero_le _, Nat.zero_le _⟩ (dk DX11_letters 5 rfl) (fun H locs hR => ?_)
      refine z_ifeq (tgt := 28) hx hb (dk DX11_letters 6 rfl) (by decide) (fun c12 => ?_) (fun c12 => ?_)
      · have hF := if_f c12 hF
        cases hF
        exact r_vret C hrt hR (dk DX11_letters 14 rfl)
      · have hF := if_t c12 hF
        refine lv_aload_n hx hb (dk DX11_letters 7 rfl) rfl (lv_at hl 0 rfl) ?_
        refine lv_dup hx hb (dk DX11_letters 8 rfl) rfl ?_
        refine gX11_74 C hR ob78 (dk DX11_letters 9 rfl) ?_
        refine lv_iconst (v := (1 : Int32)) hx hb (dk DX11_letters 10 rfl) (by decide) ?_
        refine lv_iadd hx hb (dk DX11_letters 11 rfl) ?_
        refine pX11_74 (x := (gI mq7 78 9) + (1 : Int32)) C hR ob78 (dk DX11_letters 12 rfl) (fun H locs hR => ?_)
        obtain ⟨mq10, emq10, hF⟩ := lt_ex hF
        have hR := Rp_at emq10 hR
        refine lv_goto (tgt := 4) hx hb (dk DX11_letters 13 rfl) (by decide) ?_
        exact ihq6 mq10 _ _ ls (lv_sub hl [0] rfl) hR hF
  exact L4 1000000 mq1 _ _ ls (lv_sub hl [0] rfl) hR hF
set_option maxHeartbeats 4000000 in
set_option maxRecDepth 100000 in
theorem C_M_isWord (l : Launch) (hl0 : l.stackTraces = false) (G : GG) (tx1 : String) (m0 : Mem) (htx_tx1 : tx1 ∈ strL.map (fun q => q.2.2)) (v : Bool) (m' : Mem) (hF : F_M_isWord tx1 m0 = some (v, m')) : Ct l G mr0 N0 yX11_isWord cX11_isWord 4 (some .boolean) 9 [.ref (G.2.1 + 78), .ref (G.2.2.2.2.2.2 tx1)] m0 (some (.int (b2i v))) m' := by
  refine Ct_of hl0 (by decide) (Nat.le_of_ble_eq_true rfl) ?_
  intro p e s mid args below meth c ls C hrt hl hR
  have hx := C.1.1
  have hb := C.1.2.1
  have hl : lv_has ls 4 [(0, .ref (G.2.1 + 78)), (1, .ref (G.2.2.2.2.2.2 tx1))] := hl
  unfold F_M_isWord at hF
  refine lv_aload_n hx hb (dk DX11_isWord 0 rfl) rfl (lv_at hl 0 rfl) ?_
  refine gX11_74 C hR ob78 (dk DX11_isWord 1 rfl) ?_
  refine lv_aload_n hx hb (dk DX11_isWord 2 rfl) rfl (lv_at hl 0 rfl) ?_
  refine gX11_84 C hR ob78 (dk DX11_isWord 3 rfl) ?_
  refine lv_isub hx hb (dk DX11_isWord 4 rfl) ?_
  refine lv_aload_n hx hb (dk DX11_isWord 5 rfl) rfl (lv_at hl 1 rfl) ?_
  refine r_slen C hR htx_tx1 (gd q1787 rfl) (by decide) (Nat.le_of_ble_eq_true rfl) hl.1 ⟨Nat.zero_le _, Nat.zero_le _⟩ (dk DX11_isWord 6 rfl) (fun H locs hR => ?_)
  obtain ⟨k21_2, ek21_2, hF⟩ := lt_ex hF
  have J21 : ∀ (zq2 : Bool) (mq1 : Mem) (H : Heap) (locs : List Loc) (ls : Array Slot), lv_has ls 4 [(0, .ref (G.2.1 + 78)), (1, .ref (G.2.2.2.2.2.2 tx1))] → Rp G mr0 N0 mq1 s H locs → k21_2 zq2 mq1 = some (v, m') → W p l e (rmD 9) s mid args below meth c H locs 0 0 (MQ below (QR G mr0 N0 (some (.int (b2i v))) m') args s 0 0 (fun q => G.2.1 ≤ q)) (F0 mid 21 ls [.int (b2i zq2)]) := by
    intro zq2 mq1 H locs ls hl hR hF
    rw [ek21_2] at hF
    refine lv_istore_n (lv' := [(2, .int (b2i zq2)), (0, .ref (G.2.1 + 78)), (1, .ref (G.2.2.2.2.2.2 tx1))]) hx hb (dk DX11_isWord 11 rfl) rfl hl (by decide) rfl (fun ls hl => ?_)
    refine lv_iconst (v := (0 : Int32)) hx hb (dk DX11_isWord 12 rfl) (by decide) ?_
    refine lv_istore_n (lv' := [(3, .int (0 : Int32)), (2, .int (b2i zq2)), (0, .ref (G.2.1 + 78)), (1, .ref (G.2.2.2.2.2.2 tx1))]) hx hb (dk DX11_isWord 13 rfl) rfl hl (by decide) rfl (fun ls hl => ?_)
    have L24 : ∀ (nf : Nat) (zq4 : Bool) (xq5 : Int32) (mq3 : Mem) (H : Heap) (locs : List Loc) (ls : Array Slot), lv_has ls 4 [(0, .ref (G.2.1 + 78)), (1, .ref (G.2.2.2.2.2.2 tx1)), (2, .int (b2i zq4)), (3, .int xq5)] → Rp G mr0 N0 mq3 s H locs → F_M_isWord_L24 tx1 nf zq4 xq5 mq3 = some (v, m') → W p l e (rmD 9) s mid args below meth c H locs 0 0 (MQ below (QR G mr0 N0 (some (.int (b2i v))) m') args s 0 0 (fun q => G.2.1 ≤ q)) (F0 mid 24 ls []) := by
      intro nf
      induction nf with
      | zero =>
        intro zq4 xq5 mq3 H locs ls hl hR hF
        rw [F_M_isWord_L24] at hF
        cases hF
      | succ nf ihq7 =>
        intro zq4 xq5 mq3 H locs ls hl hR hF
        rw [F_M_isWord_L24] at hF
        refine lv_iload_n hx hb (dk DX11_isWord 14 rfl) rfl (lv_at hl 2 rfl) ?_
        refine z_ifeq (tgt := 67) hx hb (dk DX11_isWord 15 rfl) (by decide) (fun c25 => ?_) (fun c25 => ?_)
        · have hF := if_f c25 hF
          refine lv_iload_n hx hb (dk DX11_isWord 37 rfl) rfl (lv_at hl 2 rfl) ?_
          cases hF
          exact r_zret C hrt hR (dk DX11_isWord 38 rfl)
        · have hF := if_t c25 hF
          refine lv_iload_n hx hb (dk DX11_isWord 16 rfl) rfl (lv_at hl 3 rfl) ?_
          refine lv_aload_n hx hb (dk DX11_isWord 17 rfl) rfl (lv_at hl 1 rfl) ?_
          refine r_slen C hR htx_tx1 (gd q1787 rfl) (by decide) (Nat.le_of_ble_eq_true rfl) hl.1 ⟨Nat.zero_le _, Nat.zero_le _⟩ (dk DX11_isWord 18 rfl) (fun H locs hR => ?_)
          refine lv_icmp_ge (tgt := 67) hx hb (dk DX11_isWord 19 rfl) (by decide) (fun c33 => ?_) (fun c33 => ?_)
          · have hF := if_t c33 hF
            refine lv_iload_n hx hb (dk DX11_isWord 37 rfl) rfl (lv_at hl 2 rfl) ?_
            cases hF
            exact r_zret C hrt hR (dk DX11_isWord 38 rfl)
          · have hF := if_f c33 hF
            refine lv_aload_n hx hb (dk DX11_isWord 20 rfl) rfl (lv_at hl 0 rfl) ?_
            refine gX11_26 C hR ob78 rf78_7 (dk DX11_isWord 21 rfl) ?_
            refine lv_aload_n hx hb (dk DX11_isWord 22 rfl) rfl (lv_at hl 0 rfl) ?_
            refine gX11_84 C hR ob78 (dk DX11_isWord 23 rfl) ?_
            refine lv_iload_n hx hb (dk DX11_isWord 24 rfl) rfl (lv_at hl 3 rfl) ?_
            refine lv_iadd hx hb (dk DX11_isWord 25 rfl) ?_
            obtain ⟨hq8, hF⟩ := ckB_ex hF
            refine r_bald C hR ob83 hq8 (dk DX11_isWord 26 rfl) ?_
            refine lv_topi (fun xq9 exq9 => ?_)
            have hF := lt_at exq9 hF
            refine lv_aload_n hx hb (dk DX11_isWord 27 rfl) rfl (lv_at hl 1 rfl) ?_
            refine lv_iload_n hx hb (dk DX11_isWord 28 rfl) rfl (lv_at hl 3 rfl) ?_
            obtain ⟨hq10, hF⟩ := ckB_ex hF
            refine r_schar C hR htx_tx1 hq10 (gd q1788 rfl) (by decide) (Nat.le_of_ble_eq_true rfl) hl.1 ⟨Nat.zero_le _, Nat.zero_le _⟩ (dk DX11_isWord 29 rfl) (fun H locs hR => ?_)
            obtain ⟨k60_12, ek60_12, hF⟩ := lt_ex hF
            have J60 : ∀ (zq12 : Bool) (mq11 : Mem) (H : Heap) (locs : List Loc) (ls : Array Slot), lv_has ls 4 [(0, .ref (G.2.1 + 78)), (1, .ref (G.2.2.2.2.2.2 tx1)), (3, .int xq5)] → Rp G mr0 N0 mq11 s H locs → k60_12 zq12 mq11 = some (v, m') → W p l e (rmD 9) s mid args below meth c H locs 0 0 (MQ below (QR G mr0 N0 (some (.int (b2i v))) m') args s 0 0 (fun q => G.2.1 ≤ q)) (F0 mid 60 ls [.int (b2i zq12)]) := by
              intro zq12 mq11 H locs ls hl hR hF
              rw [ek60_12] at hF
              refine lv_istore_n (lv' := [(2, .int (b2i zq12)), (0, .ref (G.2.1 + 78)), (1, .ref (G.2.2.2.2.2.2 tx1)), (3, .int xq5)]) hx hb (dk DX11_isWord 34 rfl) rfl hl (by decide) rfl (fun ls hl => ?_)
              obtain ⟨xq13, exq13, hF⟩ := lt_ex hF
              refine lv_iinc (v := xq13) (lv' := [(3, .int xq13), (2, .int (b2i zq12)), (0, .ref (G.2.1 + 78)), (1, .ref (G.2.2.2.2.2.2 tx1))]) hx hb (dk DX11_isWord 35 rfl) hl (k := 3) rfl (by rw [exq13]; rfl) (by decide) rfl (fun ls hl => ?_)
              refine lv_goto (tgt := 24) hx hb (dk DX11_isWord 36 rfl) (by decide) ?_
              exact ihq7 zq12 xq13 mq11 _ _ ls (lv_sub hl [2, 3, 1, 0] rfl) hR hF
            refine lv_icmp_ne (tgt := 59) hx hb (dk DX11_isWord 30 rfl) (by decide) (fun c52 => ?_) (fun c52 => ?_)
            · have hF := if_f c52 hF
              refine lv_iconst (v := (0 : Int32)) hx hb (dk DX11_isWord 33 rfl) (by decide) ?_
              exact J60 false mq3 _ _ ls (lv_sub hl [0, 1, 3] rfl) hR hF
            · have hF := if_t c52 hF
              refine lv_iconst (v := (1 : Int32)) hx hb (dk DX11_isWord 31 rfl) (by decide) ?_
              refine lv_goto (tgt := 60) hx hb (dk DX11_isWord 32 rfl) (by decide) ?_
              exact J60 true mq3 _ _ ls (lv_sub hl [0, 1, 3] rfl) hR hF
    exact L24 1000000 zq2 (0 : Int32) mq1 _ _ ls (lv_sub hl [2, 3, 1, 0] rfl) hR hF
  refine lv_icmp_ne (tgt := 20) hx hb (dk DX11_isWord 7 rfl) (by decide) (fun c13 => ?_) (fun c13 => ?_)
  · have hF := if_f c13 hF
    refine lv_iconst (v := (0 : Int32)) hx hb (dk DX11_isWord 10 rfl) (by decide) ?_
    exact J21 false m0 _ _ ls (lv_sub hl [0, 1] rfl) hR hF
  · have hF := if_t c13 hF
    refine lv_iconst (v := (1 : Int32)) hx hb (dk DX11_isWord 8 rfl) (by decide) ?_
    refine lv_goto (tgt := 21) hx hb (dk DX11_isWord 9 rfl) (by decide) ?_
    exact J21 true m0 _ _ ls (lv_sub hl [0, 1] rfl) hR hF
set_option maxHeartbeats 4000000 in
set_option maxRecDepth 100000 in
theorem C_M_number (l : Launch) (hl0 : l.stackTraces = false) (G : GG) (a1 : Int32) (a2 : Int32) (m0 : Mem) (v : Int32) (m' : Mem) (hF : F_M_number a1 a2 m0 = some (v, m')) : Ct l G mr0 N0 yX11_number cX11_number 4 (some .int) 3 [.ref (G.2.1 + 78), .int a1, .int a2] m0 (some (.int v)) m' := by
  refine Ct_of hl0 (by decide) (Nat.le_of_ble_eq_true rfl) ?_
  intro p e s mid args below meth c ls C hrt hl hR
  have hx := C.1.1
  have hb := C.1.2.1
  have hl : lv_has ls 4 [(0, .ref (G.2.1 + 78)), (1, .int a1), (2, .int a2)] := hl
  unfold F_M_number at hF
  refine lv_aload_n hx hb (dk DX11_number 0 rfl) rfl (lv_at hl 0 rfl) ?_
  obtain ⟨uq3, mq1, hzq2, hF⟩ := bnd_ex hF
  refine r_callVv (As := []) (rest := []) C hR (C_M_blanks l hl0 G m0 _ _ hzq2) (by decide) (by decide) ob78 rfl wX11_87 rfl rfl (Nat.le_of_ble_eq_true rfl) hl.1 ⟨Nat.zero_le _, Nat.zero_le _⟩ (dk DX11_number 1 rfl) (fun H locs hR => ?_)
  refine lv_iconst (v := (0 : Int32)) hx hb (dk DX11_number 2 rfl) (by decide) ?_
  refine lv_istore_n (lv' := [(3, .int (0 : Int32)), (0, .ref (G.2.1 + 78)), (1, .int a1), (2, .int a2)]) hx hb (dk DX11_number 3 rfl) rfl hl (by decide) rfl (fun ls hl => ?_)
  obtain ⟨k65_5, ek65_5, hF⟩ := lt_ex hF
  have J65 : ∀ (xq5 : Int32) (mq4 : Mem) (H : Heap) (locs : List Loc) (ls : Array Slot), lv_has ls 4 [(0, .ref (G.2.1 + 78)), (1, .int a1), (2, .int a2), (3, .int xq5)] → Rp G mr0 N0 mq4 s H locs → k65_5 xq5 mq4 = some (v, m') → W p l e (rmD 3) s mid args below meth c H locs 0 0 (MQ below (QR G mr0 N0 (some (.int v)) m') args s 0 0 (fun q => G.2.1 ≤ q)) (F0 mid 65 ls []) := by
    intro xq5 mq4 H locs ls hl hR hF
    rw [ek65_5] at hF
    refine lv_aload_n hx hb (dk DX11_number 37 rfl) rfl (lv_at hl 0 rfl) ?_
    refine gX11_74 C hR ob78 (dk DX11_number 38 rfl) ?_
    refine lv_aload_n hx hb (dk DX11_number 39 rfl) rfl (lv_at hl 0 rfl) ?_
    refine gX11_84 C hR ob78 (dk DX11_number 40 rfl) ?_
    refine lv_icmp_eq (tgt := 99) hx hb (dk DX11_number 41 rfl) (by decide) (fun c73 => ?_) (fun c73 => ?_)
    · have hF := if_t c73 hF
      refine lv_iconst (v := (-1 : Int32)) hx hb (dk DX11_number 55 rfl) (by decide) ?_
      refine lv_goto (tgt := 104) hx hb (dk DX11_number 56 rfl) (by decide) ?_
      cases hF
      exact r_iret C hrt hR (dk DX11_number 58 rfl)
    · have hF := if_f c73 hF
      refine lv_aload_n hx hb (dk DX11_number 42 rfl) rfl (lv_at hl 0 rfl) ?_
      refine gX11_74 C hR ob78 (dk DX11_number 43 rfl) ?_
      refine lv_aload_n hx hb (dk DX11_number 44 rfl) rfl (lv_at hl 0 rfl) ?_
      refine gX11_84 C hR ob78 (dk DX11_number 45 rfl) ?_
      refine lv_isub hx hb (dk DX11_number 46 rfl) ?_
      refine lv_iconst (v := (3 : Int32)) hx hb (dk DX11_number 47 rfl) (by decide) ?_
      refine lv_icmp_gt (tgt := 99) hx hb (dk DX11_number 48 rfl) (by decide) (fun c86 => ?_) (fun c86 => ?_)
      · have hF := if_t c86 hF
        refine lv_iconst (v := (-1 : Int32)) hx hb (dk DX11_number 55 rfl) (by decide) ?_
        refine lv_goto (tgt := 104) hx hb (dk DX11_number 56 rfl) (by decide) ?_
        cases hF
        exact r_iret C hrt hR (dk DX11_number 58 rfl)
      · have hF := if_f c86 hF
        refine lv_iload_n hx hb (dk DX11_number 49 rfl) rfl (lv_at hl 3 rfl) ?_
        refine lv_iload_n hx hb (dk DX11_number 50 rfl) rfl (lv_at hl 1 rfl) ?_
        refine lv_icmp_lt (tgt := 99) hx hb (dk DX11_number 51 rfl) (by decide) (fun c91 => ?_) (fun c91 => ?_)
        · have hF := if_t c91 hF
          refine lv_iconst (v := (-1 : Int32)) hx hb (dk DX11_number 55 rfl) (by decide) ?_
          refine lv_goto (tgt := 104) hx hb (dk DX11_number 56 rfl) (by decide) ?_
          cases hF
          exact r_iret C hrt hR (dk DX11_number 58 rfl)
        · have hF := if_f c91 hF
          refine lv_iload_n hx hb (dk DX11_number 52 rfl) rfl (lv_at hl 3 rfl) ?_
          refine lv_iload_n hx hb (dk DX11_number 53 rfl) rfl (lv_at hl 2 rfl) ?_
          refine lv_icmp_le (tgt := 103) hx hb (dk DX11_number 54 rfl) (by decide) (fun c96 => ?_) (fun c96 => ?_)
          · have hF := if_t c96 hF
            refine lv_iload_n hx hb (dk DX11_number 57 rfl) rfl (lv_at hl 3 rfl) ?_
            cases hF
            exact r_iret C hrt hR (dk DX11_number 58 rfl)
          · have hF := if_f c96 hF
            refine lv_iconst (v := (-1 : Int32)) hx hb (dk DX11_number 55 rfl) (by decide) ?_
            refine lv_goto (tgt := 104) hx hb (dk DX11_number 56 rfl) (by decide) ?_
            cases hF
            exact r_iret C hrt hR (dk DX11_number 58 rfl)
  have L6 : ∀ (nf : Nat) (xq7 : Int32) (mq6 : Mem) (H : Heap) (locs : List Loc) (ls : Array Slot), lv_has ls 4 [(0, .ref (G.2.1 + 78)), (1, .int a1), (2, .int a2), (3, .int xq7)] → Rp G mr0 N0 mq6 s H locs → F_M_number_L6 k65_5 nf xq7 mq6 = some (v, m') → W p l e (rmD 3) s mid args below meth c H locs 0 0 (MQ below (QR G mr0 N0 (some (.int v)) m') args s 0 0 (fun q => G.2.1 ≤ q)) (F0 mid 6 ls []) := by
    intro nf
    induction nf with
    | zero =>
      intro xq7 mq6 H locs ls hl hR hF
      rw [F_M_number_L6] at hF
      cases hF
    | succ nf ihq9 =>
      intro xq7 mq6 H locs ls hl hR hF
      rw [F_M_number_L6] at hF
      refine lv_aload_n hx hb (dk DX11_number 4 rfl) rfl (lv_at hl 0 rfl) ?_
      refine lv_bipush (v := (48 : Int32)) hx hb (dk DX11_number 5 rfl) (by decide) ?_
      refine lv_bipush (v := (57 : Int32)) hx hb (dk DX11_number 6 rfl) (by decide) ?_
      obtain ⟨zq12, mq10, hzq11, hF⟩ := bnd_ex hF
      refine r_callVi (As := [.int (48 : Int32), .int (57 : Int32)]) (rest := []) C hR (C_M_isAt l hl0 G (48 : Int32) (57 : Int32) mq6 _ _ hzq11) (by decide) (by decide) ob78 rfl wX11_80 rfl rfl (Nat.le_of_ble_eq_true rfl) hl.1 ⟨Nat.zero_le _, Nat.zero_le _⟩ (dk DX11_number 7 rfl) (fun H locs hR => ?_)
      refine z_ifeq (tgt := 65) hx hb (dk DX11_number 8 rfl) (by decide) (fun c14 => ?_) (fun c14 => ?_)
      · have hF := if_f c14 hF
        exact J65 xq7 mq10 _ _ ls (lv_sub hl [0, 1, 2, 3] rfl) hR hF
      · have hF := if_t c14 hF
        refine lv_aload_n hx hb (dk DX11_number 9 rfl) rfl (lv_at hl 0 rfl) ?_
        refine gX11_74 C hR ob78 (dk DX11_number 10 rfl) ?_
        refine lv_aload_n hx hb (dk DX11_number 11 rfl) rfl (lv_at hl 0 rfl) ?_
        refine gX11_84 C hR ob78 (dk DX11_number 12 rfl) ?_
        refine lv_isub hx hb (dk DX11_number 13 rfl) ?_
        refine lv_iconst (v := (3 : Int32)) hx hb (dk DX11_number 14 rfl) (by decide) ?_
        obtain ⟨k51_14, ek51_14, hF⟩ := lt_ex hF
        have J51 : ∀ (xq14 : Int32) (mq13 : Mem) (H : Heap) (locs : List Loc) (ls : Array Slot), lv_has ls 4 [(0, .ref (G.2.1 + 78)), (1, .int a1), (2, .int a2)] → Rp G mr0 N0 mq13 s H locs → k51_14 xq14 mq13 = some (v, m') → W p l e (rmD 3) s mid args below meth c H locs 0 0 (MQ below (QR G mr0 N0 (some (.int v)) m') args s 0 0 (fun q => G.2.1 ≤ q)) (F0 mid 51 ls [.int xq14]) := by
          intro xq14 mq13 H locs ls hl hR hF
          rw [ek51_14] at hF
          refine lv_istore_n (lv' := [(3, .int xq14), (0, .ref (G.2.1 + 78)), (1, .int a1), (2, .int a2)]) hx hb (dk DX11_number 29 rfl) rfl hl (by decide) rfl (fun ls hl => ?_)
          refine lv_aload_n hx hb (dk DX11_number 30 rfl) rfl (lv_at hl 1 rfl) ?_
          refine lv_dup hx hb (dk DX11_number 31 rfl) rfl ?_
          refine gX11_74 C hR ob78 (dk DX11_number 32 rfl) ?_
          refine lv_iconst (v := (1 : Int32)) hx hb (dk DX11_number 33 rfl) (by decide) ?_
          refine lv_iadd hx hb (dk DX11_number 34 rfl) ?_
          refine pX11_74 (x := (gI mq13 78 9) + (1 : Int32)) C hR ob78 (dk DX11_number 35 rfl) (fun H locs hR => ?_)
          obtain ⟨mq15, emq15, hF⟩ := lt_ex hF
          have hR := Rp_at emq15 hR
          refine lv_goto (tgt := 6) hx hb (dk DX11_number 36 rfl) (by decide) ?_
          exact ihq9 xq14 mq15 _ _ ls (lv_sub hl [1, 2, 3, 0] rfl) hR hF
        refine lv_icmp_ge (tgt := 50) hx hb (dk DX11_number 15 rfl) (by decide) (fun c27 => ?_) (fun c27 => ?_)
        · have hF := if_t c27 hF
          refine lv_iload_n hx hb (dk DX11_number 28 rfl) rfl (lv_at hl 3 rfl) ?_
          exact J51 xq7 mq10 _ _ ls (lv_sub hl [0, 1, 2] rfl) hR hF
        · have hF := if_f c27 hF
          refine lv_bipush (v := (10 : Int32)) hx hb (dk DX11_number 16 rfl) (by decide) ?_
          refine lv_iload_n hx hb (dk DX11_number 17 rfl) rfl (lv_at hl 3 rfl) ?_
          refine lv_imul hx hb (dk DX11_number 18 rfl) ?_
          refine lv_aload_n hx hb (dk DX11_number 19 rfl) rfl (lv_at hl 0 rfl) ?_
          refine gX11_26 C hR ob78 rf78_7 (dk DX11_number 20 rfl) ?_
          refine lv_aload_n hx hb (dk DX11_number 21 rfl) rfl (lv_at hl 0 rfl) ?_
          refine gX11_74 C hR ob78 (dk DX11_number 22 rfl) ?_
          obtain ⟨hq16, hF⟩ := ckB_ex hF
          refine r_bald C hR ob83 hq16 (dk DX11_number 23 rfl) ?_
          refine lv_topi (fun xq17 exq17 => ?_)
          have hF := lt_at exq17 hF
          refine lv_iadd hx hb (dk DX11_number 24 rfl) ?_
          refine lv_bipush (v := (48 : Int32)) hx hb (dk DX11_number 25 rfl) (by decide) ?_
          refine lv_isub hx hb (dk DX11_number 26 rfl) ?_
          refine lv_goto (tgt := 51) hx hb (dk DX11_number 27 rfl) (by decide) ?_
          exact J51 ((((10 : Int32) * xq7) + xq17) - (48 : Int32)) mq10 _ _ ls (lv_sub hl [0, 1, 2] rfl) hR hF
  exact L6 1000000 (0 : Int32) mq1 _ _ ls (lv_sub hl [1, 2, 3, 0] rfl) hR hF
set_option maxHeartbeats 4000000 in
set_option maxRecDepth 100000 in
theorem C_M_passes (l : Launch) (hl0 : l.stackTraces = false) (G : GG) (tx1 : String) (m0 : Mem) (htx_tx1 : tx1 ∈ strL.map (fun q => q.2.2)) (v : Bool) (m' : Mem) (hF : F_M_passes tx1 m0 = some (v, m')) : Ct l G mr0 N0 yX11_passes cX11_passes 2 (some .boolean) 10 [.ref (G.2.1 + 78), .ref (G.2.2.2.2.2.2 tx1)] m0 (some (.int (b2i v))) m' := by
  refine Ct_of hl0 (by decide) (Nat.le_of_ble_eq_true rfl) ?_
  intro p e s mid args below meth c ls C hrt hl hR
  have hx := C.1.1
  have hb := C.1.2.1
  have hl : lv_has ls 2 [(0, .ref (G.2.1 + 78)), (1, .ref (G.2.2.2.2.2.2 tx1))] := hl
  unfold F_M_passes at hF
  refine lv_aload_n hx hb (dk DX11_passes 0 rfl) rfl (lv_at hl 0 rfl) ?_
  obtain ⟨uq3, mq1, hzq2, hF⟩ := bnd_ex hF
  refine r_callVv (As := []) (rest := []) C hR (C_M_letters l hl0 G m0 _ _ hzq2) (by decide) (by decide) ob78 rfl wX11_99 rfl rfl (Nat.le_of_ble_eq_true rfl) hl.1 ⟨Nat.zero_le _, Nat.zero_le _⟩ (dk DX11_passes 1 rfl) (fun H locs hR => ?_)
  refine lv_aload_n hx hb (dk DX11_passes 2 rfl) rfl (lv_at hl 0 rfl) ?_
  refine lv_aload_n hx hb (dk DX11_passes 3 rfl) rfl (lv_at hl 1 rfl) ?_
  obtain ⟨zq6, mq4, hzq5, hF⟩ := bnd_ex hF
  refine r_callVi (As := [.ref (G.2.2.2.2.2.2 tx1)]) (rest := []) C hR (C_M_isWord l hl0 G tx1 mq1 htx_tx1 _ _ hzq5) (by decide) (by decide) ob78 rfl wX11_102 rfl rfl (Nat.le_of_ble_eq_true rfl) hl.1 ⟨Nat.zero_le _, Nat.zero_le _⟩ (dk DX11_passes 4 rfl) (fun H locs hR => ?_)
  refine z_ifeq (tgt := 14) hx hb (dk DX11_passes 5 rfl) (by decide) (fun c9 => ?_) (fun c9 => ?_)
  · have hF := if_f c9 hF
    refine lv_aload_n hx hb (dk DX11_passes 8 rfl) rfl (lv_at hl 0 rfl) ?_
    refine lv_aload_n hx hb (dk DX11_passes 9 rfl) rfl (lv_at hl 0 rfl) ?_
    refine gX11_84 C hR ob78 (dk DX11_passes 10 rfl) ?_
    refine pX11_74 (x := gI mq4 78 11) C hR ob78 (dk DX11_passes 11 rfl) (fun H locs hR => ?_)
    obtain ⟨mq7, emq7, hF⟩ := lt_ex hF
    have hR := Rp_at emq7 hR
    refine lv_iconst (v := (0 : Int32)) hx hb (dk DX11_passes 12 rfl) (by decide) ?_
    cases hF
    exact r_zret C hrt hR (dk DX11_passes 13 rfl)
  · have hF := if_t c9 hF
    refine lv_iconst (v := (1 : Int32)) hx hb (dk DX11_passes 6 rfl) (by decide) ?_
    cases hF
    exact r_zret C hrt hR (dk DX11_passes 7 rfl)
set_option maxHeartbeats 4000000 in
set_option maxRecDepth 100000 in
theorem C_M_emits (l : Launch) (hl0 : l.stackTraces = false) (G : GG) (a1 : Int32) (a2 : Int32) (m0 : Mem) (v : Unit) (m' : Mem) (hF : F_M_emits a1 a2 m0 = some (v, m')) : Ct l G mr0 N0 yX11_emits cX11_emits 3 none 1 [.ref (G.2.1 + 78), .int a1, .int a2] m0 none m' := by
  refine Ct_of hl0 (by decide) (Nat.le_of_ble_eq_true rfl) ?_
  intro p e s mid args below meth c ls C hrt hl hR
  have hx := C.1.1
  have hb := C.1.2.1
  have hl : lv_has ls 3 [(0, .ref (G.2.1 + 78)), (1, .int a1), (2, .int a2)] := hl
  unfold F_M_emits at hF
  refine lv_aload_n hx hb (dk DX11_emits 0 rfl) rfl (lv_at hl 0 rfl) ?_
  refine gX11_13 C hR ob78 rf78_1 (dk DX11_emits 1 rfl) ?_
  refine lv_sipush (v := (1172 : Int32)) hx hb (dk DX11_emits 2 rfl) (by decide) ?_
  refine lv_iconst (v := (2 : Int32)) hx hb (dk DX11_emits 3 rfl) (by decide) ?_
  refine lv_aload_n hx hb (dk DX11_emits 4 rfl) rfl (lv_at hl 0 rfl) ?_
  refine gX11_163 C hR ob78 (dk DX11_emits 5 rfl) ?_
  refine lv_imul hx hb (dk DX11_emits 6 rfl) ?_
  refine lv_iadd hx hb (dk DX11_emits 7 rfl) ?_
  refine lv_iload_n hx hb (dk DX11_emits 8 rfl) rfl (lv_at hl 1 rfl) ?_
  obtain ⟨hq2, hF⟩ := ckB_ex hF
  refine r_iast C hR ob79 hq2 (dk DX11_emits 9 rfl) (fun H locs hR => ?_)
  obtain ⟨mq1, emq1, hF⟩ := lt_ex hF
  have hR := Rp_at emq1 hR
  refine lv_aload_n hx hb (dk DX11_emits 10 rfl) rfl (lv_at hl 0 rfl) ?_
  refine gX11_13 C hR ob78 rf78_1 (dk DX11_emits 11 rfl) ?_
  refine lv_sipush (v := (1172 : Int32)) hx hb (dk DX11_emits 12 rfl) (by decide) ?_
  refine lv_iconst (v := (2 : Int32)) hx hb (dk DX11_emits 13 rfl) (by decide) ?_
  refine lv_aload_n hx hb (dk DX11_emits 14 rfl) rfl (lv_at hl 0 rfl) ?_
  refine gX11_163 C hR ob78 (dk DX11_emits 15 rfl) ?_
  refine lv_imul hx hb (dk DX11_emits 16 rfl) ?_
  refine lv_iadd hx hb (dk DX11_emits 17 rfl) ?_
  refine lv_topi (fun xq3 exq3 => ?_)
  have hF := lt_at exq3 hF
  refine lv_iconst (v := (1 : Int32)) hx hb (dk DX11_emits 18 rfl) (by decide) ?_
  refine lv_iadd hx hb (dk DX11_emits 19 rfl) ?_
  refine lv_iload_n hx hb (dk DX11_emits 20 rfl) rfl (lv_at hl 2 rfl) ?_
  obtain ⟨hq5, hF⟩ := ckB_ex hF
  refine r_iast C hR ob79 hq5 (dk DX11_emits 21 rfl) (fun H locs hR => ?_)
  obtain ⟨mq4, emq4, hF⟩ := lt_ex hF
  have hR := Rp_at emq4 hR
  refine lv_aload_n hx hb (dk DX11_emits 22 rfl) rfl (lv_at hl 0 rfl) ?_
  refine lv_dup hx hb (dk DX11_emits 23 rfl) rfl ?_
  refine gX11_163 C hR ob78 (dk DX11_emits 24 rfl) ?_
  refine lv_iconst (v := (1 : Int32)) hx hb (dk DX11_emits 25 rfl) (by decide) ?_
  refine lv_iadd hx hb (dk DX11_emits 26 rfl) ?_
  refine pX11_163 (x := (gI mq4 78 15) + (1 : Int32)) C hR ob78 (dk DX11_emits 27 rfl) (fun H locs hR => ?_)
  obtain ⟨mq6, emq6, hF⟩ := lt_ex hF
  have hR := Rp_at emq6 hR
  cases hF
  exact r_vret C hrt hR (dk DX11_emits 28 rfl)
set_option maxHeartbeats 4000000 in
set_option maxRecDepth 100000 in
theorem C_M_readAllOf (l : Launch) (hl0 : l.stackTraces = false) (G : GG) (D : Nat) (rc : Mem → Option (Bool × Mem)) (hrc : ∀  (m0 : Mem) (v : Bool) (m' : Mem), rc m0 = some (v, m') → Ct l G mr0 N0 yX11_readAtom cX11_readAtom 3 (some .boolean) D [.ref (G.2.1 + 78)] m0 (some (.int (b2i v))) m') (hD : 11 ≤ D) (m0 : Mem) (v : Bool) (m' : Mem) (hF : F_M_readAllOf rc m0 = some (v, m')) : Ct l G mr0 N0 yX11_readAllOf cX11_readAllOf 1 (some .boolean) (D + 1) [.ref (G.2.1 + 78)] m0 (some (.int (b2i v))) m' := by
  refine Ct_of hl0 (by decide) (Nat.le_of_ble_eq_true rfl) ?_
  intro p e s mid args below meth c ls C hrt hl hR
  have hx := C.1.1
  have hb := C.1.2.1
  have hl : lv_has ls 1 [(0, .ref (G.2.1 + 78))] := hl
  unfold F_M_readAllOf at hF
  refine lv_aload_n hx hb (dk DX11_readAllOf 0 rfl) rfl (lv_at hl 0 rfl) ?_
  obtain ⟨zq3, mq1, hzq2, hF⟩ := bnd_ex hF
  refine r_callVi (As := []) (rest := []) C hR (hrc m0 _ _ hzq2) (by omega) (by decide) ob78 rfl wX11_193 rfl rfl (Nat.le_of_ble_eq_true rfl) hl.1 ⟨Nat.zero_le _, Nat.zero_le _⟩ (dk DX11_readAllOf 1 rfl) (fun H locs hR => ?_)
  refine z_ifne (tgt := 9) hx hb (dk DX11_readAllOf 2 rfl) (by decide) (fun c4 => ?_) (fun c4 => ?_)
  · have hF := if_t c4 hF
    have L9 : ∀ (nf : Nat) (mq4 : Mem) (H : Heap) (locs : List Loc) (ls : Array Slot), lv_has ls 1 [(0, .ref (G.2.1 + 78))] → Rp G mr0 N0 mq4 s H locs → F_M_readAllOf_L9 rc nf mq4 = some (v, m') → W p l e (rmD (D + 1)) s mid args below meth c H locs 0 0 (MQ below (QR G mr0 N0 (some (.int (b2i v))) m') args s 0 0 (fun q => G.2.1 ≤ q)) (F0 mid 9 ls []) := by
      intro nf
      induction nf with
      | zero =>
        intro mq4 H locs ls hl hR hF
        rw [F_M_readAllOf_L9] at hF
        cases hF
      | succ nf ihq6 =>
        intro mq4 H locs ls hl hR hF
        rw [F_M_readAllOf_L9] at hF
        refine lv_aload_n hx hb (dk DX11_readAllOf 5 rfl) rfl (lv_at hl 0 rfl) ?_
        refine r_lds C (strm_X11_199) (dk DX11_readAllOf 6 rfl) ?_
        obtain ⟨zq9, mq7, hzq8, hF⟩ := bnd_ex hF
        refine r_callVi (As := [.ref (G.2.2.2.2.2.2 ("and"))]) (rest := []) C hR (C_M_passes l hl0 G ("and") mq4 txm_24 _ _ hzq8) (by omega) (by decide) ob78 rfl wX11_190 rfl rfl (Nat.le_of_ble_eq_true rfl) hl.1 ⟨Nat.zero_le _, Nat.zero_le _⟩ (dk DX11_readAllOf 7 rfl) (fun H locs hR => ?_)
        refine z_ifeq (tgt := 37) hx hb (dk DX11_readAllOf 8 rfl) (by decide) (fun c15 => ?_) (fun c15 => ?_)
        · have hF := if_f c15 hF
          refine lv_iconst (v := (1 : Int32)) hx hb (dk DX11_readAllOf 19 rfl) (by decide) ?_
          cases hF
          exact r_zret C hrt hR (dk DX11_readAllOf 20 rfl)
        · have hF := if_t c15 hF
          refine lv_aload_n hx hb (dk DX11_readAllOf 9 rfl) rfl (lv_at hl 0 rfl) ?_
          obtain ⟨zq12, mq10, hzq11, hF⟩ := bnd_ex hF
          refine r_callVi (As := []) (rest := []) C hR (hrc mq7 _ _ hzq11) (by omega) (by decide) ob78 rfl wX11_193 rfl rfl (Nat.le_of_ble_eq_true rfl) hl.1 ⟨Nat.zero_le _, Nat.zero_le _⟩ (dk DX11_readAllOf 10 rfl) (fun H locs hR => ?_)
          refine z_ifne (tgt := 27) hx hb (dk DX11_readAllOf 11 rfl) (by decide) (fun c22 => ?_) (fun c22 => ?_)
          · have hF := if_t c22 hF
            refine lv_aload_n hx hb (dk DX11_readAllOf 14 rfl) rfl (lv_at hl 0 rfl) ?_
            refine lv_bipush (v := (13 : Int32)) hx hb (dk DX11_readAllOf 15 rfl) (by decide) ?_
            refine lv_iconst (v := (0 : Int32)) hx hb (dk DX11_readAllOf 16 rfl) (by decide) ?_
            obtain ⟨uq15, mq13, hzq14, hF⟩ := bnd_ex hF
            refine r_callVv (As := [.int (13 : Int32), .int (0 : Int32)]) (rest := []) C hR (C_M_emits l hl0 G (13 : Int32) (0 : Int32) mq10 _ _ hzq14) (by omega) (by decide) ob78 rfl wX11_166 rfl rfl (Nat.le_of_ble_eq_true rfl) hl.1 ⟨Nat.zero_le _, Nat.zero_le _⟩ (dk DX11_readAllOf 17 rfl) (fun H locs hR => ?_)
            refine lv_goto (tgt := 9) hx hb (dk DX11_readAllOf 18 rfl) (by decide) ?_
            exact ihq6 mq13 _ _ ls (lv_sub hl [0] rfl) hR hF
          · have hF := if_f c22 hF
            refine lv_iconst (v := (0 : Int32)) hx hb (dk DX11_readAllOf 12 rfl) (by decide) ?_
            cases hF
            exact r_zret C hrt hR (dk DX11_readAllOf 13 rfl)
    exact L9 1000000 mq1 _ _ ls (lv_sub hl [0] rfl) hR hF
  · have hF := if_f c4 hF
    refine lv_iconst (v := (0 : Int32)) hx hb (dk DX11_readAllOf 3 rfl) (by decide) ?_
    cases hF
    exact r_zret C hrt hR (dk DX11_readAllOf 4 rfl)
set_option maxHeartbeats 4000000 in
set_option maxRecDepth 100000 in
theorem C_M_readCond (l : Launch) (hl0 : l.stackTraces = false) (G : GG) (D : Nat) (rc : Mem → Option (Bool × Mem)) (hrc : ∀  (m0 : Mem) (v : Bool) (m' : Mem), rc m0 = some (v, m') → Ct l G mr0 N0 yX11_readAtom cX11_readAtom 3 (some .boolean) D [.ref (G.2.1 + 78)] m0 (some (.int (b2i v))) m') (hD : 11 ≤ D) (m0 : Mem) (v : Bool) (m' : Mem) (hF : F_M_readCond rc m0 = some (v, m')) : Ct l G mr0 N0 yX11_readCond cX11_readCond 1 (some .boolean) (D + 2) [.ref (G.2.1 + 78)] m0 (some (.int (b2i v))) m' := by
  refine Ct_of hl0 (by decide) (Nat.le_of_ble_eq_true rfl) ?_
  intro p e s mid args below meth c ls C hrt hl hR
  have hx := C.1.1
  have hb := C.1.2.1
  have hl : lv_has ls 1 [(0, .ref (G.2.1 + 78))] := hl
  unfold F_M_readCond at hF
  refine lv_aload_n hx hb (dk DX11_readCond 0 rfl) rfl (lv_at hl 0 rfl) ?_
  obtain ⟨zq3, mq1, hzq2, hF⟩ := bnd_ex hF
  refine r_callVi (As := []) (rest := []) C hR (C_M_readAllOf l hl0 G D rc hrc (by omega) m0 _ _ hzq2) (by omega) (by decide) ob78 rfl wX11_201 rfl rfl (Nat.le_of_ble_eq_true rfl) hl.1 ⟨Nat.zero_le _, Nat.zero_le _⟩ (dk DX11_readCond 1 rfl) (fun H locs hR => ?_)
  refine z_ifne (tgt := 9) hx hb (dk DX11_readCond 2 rfl) (by decide) (fun c4 => ?_) (fun c4 => ?_)
  · have hF := if_t c4 hF
    have L9 : ∀ (nf : Nat) (mq4 : Mem) (H : Heap) (locs : List Loc) (ls : Array Slot), lv_has ls 1 [(0, .ref (G.2.1 + 78))] → Rp G mr0 N0 mq4 s H locs → F_M_readCond_L9 rc nf mq4 = some (v, m') → W p l e (rmD (D + 2)) s mid args below meth c H locs 0 0 (MQ below (QR G mr0 N0 (some (.int (b2i v))) m') args s 0 0 (fun q => G.2.1 ≤ q)) (F0 mid 9 ls []) := by
      intro nf
      induction nf with
      | zero =>
        intro mq4 H locs ls hl hR hF
        rw [F_M_readCond_L9] at hF
        cases hF
      | succ nf ihq6 =>
        intro mq4 H locs ls hl hR hF
        rw [F_M_readCond_L9] at hF
        refine lv_aload_n hx hb (dk DX11_readCond 5 rfl) rfl (lv_at hl 0 rfl) ?_
        refine r_lds C (strm_X11_204) (dk DX11_readCond 6 rfl) ?_
        obtain ⟨zq9, mq7, hzq8, hF⟩ := bnd_ex hF
        refine r_callVi (As := [.ref (G.2.2.2.2.2.2 ("or"))]) (rest := []) C hR (C_M_passes l hl0 G ("or") mq4 txm_25 _ _ hzq8) (by omega) (by decide) ob78 rfl wX11_190 rfl rfl (Nat.le_of_ble_eq_true rfl) hl.1 ⟨Nat.zero_le _, Nat.zero_le _⟩ (dk DX11_readCond 7 rfl) (fun H locs hR => ?_)
        refine z_ifeq (tgt := 37) hx hb (dk DX11_readCond 8 rfl) (by decide) (fun c15 => ?_) (fun c15 => ?_)
        · have hF := if_f c15 hF
          refine lv_iconst (v := (1 : Int32)) hx hb (dk DX11_readCond 19 rfl) (by decide) ?_
          cases hF
          exact r_zret C hrt hR (dk DX11_readCond 20 rfl)
        · have hF := if_t c15 hF
          refine lv_aload_n hx hb (dk DX11_readCond 9 rfl) rfl (lv_at hl 0 rfl) ?_
          obtain ⟨zq12, mq10, hzq11, hF⟩ := bnd_ex hF
          refine r_callVi (As := []) (rest := []) C hR (C_M_readAllOf l hl0 G D rc hrc (by omega) mq7 _ _ hzq11) (by omega) (by decide) ob78 rfl wX11_201 rfl rfl (Nat.le_of_ble_eq_true rfl) hl.1 ⟨Nat.zero_le _, Nat.zero_le _⟩ (dk DX11_readCond 10 rfl) (fun H locs hR => ?_)
          refine z_ifne (tgt := 27) hx hb (dk DX11_readCond 11 rfl) (by decide) (fun c22 => ?_) (fun c22 => ?_)
          · have hF := if_t c22 hF
            refine lv_aload_n hx hb (dk DX11_readCond 14 rfl) rfl (lv_at hl 0 rfl) ?_
            refine lv_bipush (v := (14 : Int32)) hx hb (dk DX11_readCond 15 rfl) (by decide) ?_
            refine lv_iconst (v := (0 : Int32)) hx hb (dk DX11_readCond 16 rfl) (by decide) ?_
            obtain ⟨uq15, mq13, hzq14, hF⟩ := bnd_ex hF
            refine r_callVv (As := [.int (14 : Int32), .int (0 : Int32)]) (rest := []) C hR (C_M_emits l hl0 G (14 : Int32) (0 : Int32) mq10 _ _ hzq14) (by omega) (by decide) ob78 rfl wX11_166 rfl rfl (Nat.le_of_ble_eq_true rfl) hl.1 ⟨Nat.zero_le _, Nat.zero_le _⟩ (dk DX11_readCond 17 rfl) (fun H locs hR => ?_)
            refine lv_goto (tgt := 9) hx hb (dk DX11_readCond 18 rfl) (by decide) ?_
            exact ihq6 mq13 _ _ ls (lv_sub hl [0] rfl) hR hF
          · have hF := if_f c22 hF
            refine lv_iconst (v := (0 : Int32)) hx hb (dk DX11_readCond 12 rfl) (by decide) ?_
            cases hF
            exact r_zret C hrt hR (dk DX11_readCond 13 rfl)
    exact L9 1000000 mq1 _ _ ls (lv_sub hl [0] rfl) hR hF
  · have hF := if_f c4 hF
    refine lv_iconst (v := (0 : Int32)) hx hb (dk DX11_readCond 3 rfl) (by decide) ?_
    cases hF
    exact r_zret C hrt hR (dk DX11_readCond 4 rfl)
set_option maxHeartbeats 4000000 in
set_option maxRecDepth 100000 in
theorem C_M_sign (l : Launch) (hl0 : l.stackTraces = false) (G : GG) (a1 : Int32) (m0 : Mem) (v : Bool) (m' : Mem) (hF : F_M_sign a1 m0 = some (v, m')) : Ct l G mr0 N0 yX11_sign cX11_sign 2 (some .boolean) 3 [.ref (G.2.1 + 78), .int a1] m0 (some (.int (b2i v))) m' := by
  refine Ct_of hl0 (by decide) (Nat.le_of_ble_eq_true rfl) ?_
  intro p e s mid args below meth c ls C hrt hl hR
  have hx := C.1.1
  have hb := C.1.2.1
  have hl : lv_has ls 2 [(0, .ref (G.2.1 + 78)), (1, .int a1)] := hl
  unfold F_M_sign at hF
  refine lv_aload_n hx hb (dk DX11_sign 0 rfl) rfl (lv_at hl 0 rfl) ?_
  obtain ⟨uq3, mq1, hzq2, hF⟩ := bnd_ex hF
  refine r_callVv (As := []) (rest := []) C hR (C_M_blanks l hl0 G m0 _ _ hzq2) (by decide) (by decide) ob78 rfl wX11_87 rfl rfl (Nat.le_of_ble_eq_true rfl) hl.1 ⟨Nat.zero_le _, Nat.zero_le _⟩ (dk DX11_sign 1 rfl) (fun H locs hR => ?_)
  refine lv_aload_n hx hb (dk DX11_sign 2 rfl) rfl (lv_at hl 0 rfl) ?_
  refine lv_iload_n hx hb (dk DX11_sign 3 rfl) rfl (lv_at hl 1 rfl) ?_
  refine lv_iload_n hx hb (dk DX11_sign 4 rfl) rfl (lv_at hl 1 rfl) ?_
  obtain ⟨zq6, mq4, hzq5, hF⟩ := bnd_ex hF
  refine r_callVi (As := [.int a1, .int a1]) (rest := []) C hR (C_M_isAt l hl0 G a1 a1 mq1 _ _ hzq5) (by decide) (by decide) ob78 rfl wX11_80 rfl rfl (Nat.le_of_ble_eq_true rfl) hl.1 ⟨Nat.zero_le _, Nat.zero_le _⟩ (dk DX11_sign 5 rfl) (fun H locs hR => ?_)
  refine z_ifne (tgt := 15) hx hb (dk DX11_sign 6 rfl) (by decide) (fun c10 => ?_) (fun c10 => ?_)
  · have hF := if_t c10 hF
    refine lv_aload_n hx hb (dk DX11_sign 9 rfl) rfl (lv_at hl 0 rfl) ?_
    refine lv_dup hx hb (dk DX11_sign 10 rfl) rfl ?_
    refine gX11_74 C hR ob78 (dk DX11_sign 11 rfl) ?_
    refine lv_iconst (v := (1 : Int32)) hx hb (dk DX11_sign 12 rfl) (by decide) ?_
    refine lv_iadd hx hb (dk DX11_sign 13 rfl) ?_
    refine pX11_74 (x := (gI mq4 78 9) + (1 : Int32)) C hR ob78 (dk DX11_sign 14 rfl) (fun H locs hR => ?_)
    obtain ⟨mq7, emq7, hF⟩ := lt_ex hF
    have hR := Rp_at emq7 hR
    refine lv_iconst (v := (1 : Int32)) hx hb (dk DX11_sign 15 rfl) (by decide) ?_
    cases hF
    exact r_zret C hrt hR (dk DX11_sign 16 rfl)
  · have hF := if_f c10 hF
    refine lv_iconst (v := (0 : Int32)) hx hb (dk DX11_sign 7 rfl) (by decide) ?_
    cases hF
    exact r_zret C hrt hR (dk DX11_sign 8 rfl)
