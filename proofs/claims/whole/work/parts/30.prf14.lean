set_option maxHeartbeats 4000000 in
set_option maxRecDepth 100000 in
theorem C_M_slot (l : Launch) (hl0 : l.stackTraces = false) (G : GG) (a1 : Int32) (a2 : Int32) (a3 : Bool) (m0 : Mem) (v : Int32) (m' : Mem) (hF : F_M_slot a1 a2 a3 m0 = some (v, m')) : Ct l G mr0 N0 yX11_slot cX11_slot 4 (some .int) 3 [.ref (G.2.1 + 78), .int a1, .int a2, .int (b2i a3)] m0 (some (.int v)) m' := by
  refine Ct_of hl0 (by decide) (Nat.le_of_ble_eq_true rfl) ?_
  intro p e s mid args below meth c ls C hrt hl hR
  have hx := C.1.1
  have hb := C.1.2.1
  have hl : lv_has ls 4 [(0, .ref (G.2.1 + 78)), (1, .int a1), (2, .int a2), (3, .int (b2i a3))] := hl
  unfold F_M_slot at hF
  refine lv_aload_n hx hb (dk DX11_slot 0 rfl) rfl (lv_at hl 0 rfl) ?_
  refine lv_iconst (v := (0 : Int32)) hx hb (dk DX11_slot 1 rfl) (by decide) ?_
  refine pX11_3 (x := (0 : Int32)) C hR ob78 (dk DX11_slot 2 rfl) (fun H locs hR => ?_)
  obtain ⟨m1, em1, hF⟩ := lt_ex hF
  have hR := Rp_at em1 hR
  refine lv_aload_n hx hb (dk DX11_slot 3 rfl) rfl (lv_at hl 0 rfl) ?_
  refine lv_iload_n hx hb (dk DX11_slot 4 rfl) rfl (lv_at hl 1 rfl) ?_
  refine lv_iconst (v := (0 : Int32)) hx hb (dk DX11_slot 5 rfl) (by decide) ?_
  refine lv_iconst (v := (3 : Int32)) hx hb (dk DX11_slot 6 rfl) (by decide) ?_
  obtain ⟨z4, m2, hz3, hF⟩ := bnd_ex hF
  refine r_callSi (As := [.int a1, .int (0 : Int32), .int (3 : Int32)]) (rest := [.ref (G.2.1 + 78)]) C hR (C_M_in l hl0 G a1 (0 : Int32) (3 : Int32) m1 _ _ hz3) (by decide) (by decide) wX11_67 rfl rfl (Nat.le_of_ble_eq_true rfl) hl.1 ⟨Nat.zero_le _, Nat.zero_le _⟩ (dk DX11_slot 7 rfl) (fun H locs hR => ?_)
  obtain ⟨k27_6, ek27_6, hF⟩ := lt_ex hF
  have J27 : ∀ (z6 : Bool) (m5 : Mem) (H : Heap) (locs : List Loc) (ls : Array Slot), lv_has ls 4 [(0, .ref (G.2.1 + 78)), (1, .int a1), (2, .int a2), (3, .int (b2i a3))] → Rp G mr0 N0 m5 s H locs → k27_6 z6 m5 = some (v, m') → W p l e (rmD 3) s mid args below meth c H locs 0 0 (MQ below (QR G mr0 N0 (some (.int v)) m') args s 0 0 (fun q => G.2.1 ≤ q)) (F0 mid 27 ls [.int (b2i z6), .ref (G.2.1 + 78)]) := by
    intro z6 m5 H locs ls hl hR hF
    rw [ek27_6] at hF
    refine lv_iconst (v := (1 : Int32)) hx hb (dk DX11_slot 15 rfl) (by decide) ?_
    obtain ⟨z9, m7, hz8, hF⟩ := bnd_ex hF
    refine r_callVi (As := [.int (b2i z6), .int (1 : Int32)]) (rest := []) C hR (C_M_throwsIf l hl0 G z6 (1 : Int32) m5 _ _ hz8) (by decide) (by decide) ob78 rfl wX11_227 rfl rfl (Nat.le_of_ble_eq_true rfl) hl.1 ⟨Nat.zero_le _, Nat.zero_le _⟩ (dk DX11_slot 16 rfl) (fun H locs hR => ?_)
    refine z_ifeq (tgt := 38) hx hb (dk DX11_slot 17 rfl) (by decide) (fun c31 => ?_) (fun c31 => ?_)
    · have hF := if_f c31 hF
      refine lv_aload_n hx hb (dk DX11_slot 20 rfl) rfl (lv_at hl 0 rfl) ?_
      refine lv_iload_n hx hb (dk DX11_slot 21 rfl) rfl (lv_at hl 1 rfl) ?_
      refine lv_iload_n hx hb (dk DX11_slot 22 rfl) rfl (lv_at hl 2 rfl) ?_
      refine lv_iload_n hx hb (dk DX11_slot 23 rfl) rfl (lv_at hl 3 rfl) ?_
      obtain ⟨k50_11, ek50_11, hF⟩ := lt_ex hF
      have J50 : ∀ (z11 : Bool) (m10 : Mem) (H : Heap) (locs : List Loc) (ls : Array Slot), lv_has ls 4 [] → Rp G mr0 N0 m10 s H locs → k50_11 z11 m10 = some (v, m') → W p l e (rmD 3) s mid args below meth c H locs 0 0 (MQ below (QR G mr0 N0 (some (.int v)) m') args s 0 0 (fun q => G.2.1 ≤ q)) (F0 mid 50 ls [.int (b2i z11), .int a2, .int a1, .ref (G.2.1 + 78)]) := by
        intro z11 m10 H locs ls hl hR hF
        rw [ek50_11] at hF
        obtain ⟨x14, m12, hz13, hF⟩ := bnd_ex hF
        refine r_callVi (As := [.int a1, .int a2, .int (b2i z11)]) (rest := []) C hR (C_M_ofSlot l hl0 G a1 a2 (b2i z11) m10 _ _ hz13) (by decide) (by decide) ob78 rfl wX11_249 rfl rfl (Nat.le_of_ble_eq_true rfl) hl.1 ⟨Nat.zero_le _, Nat.zero_le _⟩ (dk DX11_slot 28 rfl) (fun H locs hR => ?_)
        cases hF
        exact r_iret (v := x14) C hrt hR (dk DX11_slot 29 rfl)
      refine z_ifeq (tgt := 49) hx hb (dk DX11_slot 24 rfl) (by decide) (fun c42 => ?_) (fun c42 => ?_)
      · have hF := if_f c42 hF
        refine lv_iconst (v := (0 : Int32)) hx hb (dk DX11_slot 27 rfl) (by decide) ?_
        exact J50 false m7 _ _ ls (lv_sub hl [] rfl) hR hF
      · have hF := if_t c42 hF
        refine lv_iconst (v := (1 : Int32)) hx hb (dk DX11_slot 25 rfl) (by decide) ?_
        refine lv_goto (tgt := 50) hx hb (dk DX11_slot 26 rfl) (by decide) ?_
        exact J50 true m7 _ _ ls (lv_sub hl [] rfl) hR hF
    · have hF := if_t c31 hF
      refine lv_iconst (v := (0 : Int32)) hx hb (dk DX11_slot 18 rfl) (by decide) ?_
      refine lv_goto (tgt := 53) hx hb (dk DX11_slot 19 rfl) (by decide) ?_
      cases hF
      exact r_iret (v := (0 : Int32)) C hrt hR (dk DX11_slot 29 rfl)
  obtain ⟨k22_15, ek22_15, hF⟩ := lt_ex hF
  have J22 : ∀ (m15 : Mem) (H : Heap) (locs : List Loc) (ls : Array Slot), lv_has ls 4 [(0, .ref (G.2.1 + 78)), (1, .int a1), (2, .int a2), (3, .int (b2i a3))] → Rp G mr0 N0 m15 s H locs → k22_15  m15 = some (v, m') → W p l e (rmD 3) s mid args below meth c H locs 0 0 (MQ below (QR G mr0 N0 (some (.int v)) m') args s 0 0 (fun q => G.2.1 ≤ q)) (F0 mid 22 ls [.ref (G.2.1 + 78)]) := by
    intro  m15 H locs ls hl hR hF
    rw [ek22_15] at hF
    refine lv_iconst (v := (1 : Int32)) hx hb (dk DX11_slot 12 rfl) (by decide) ?_
    refine lv_goto (tgt := 27) hx hb (dk DX11_slot 13 rfl) (by decide) ?_
    exact J27 true m15 _ _ ls (lv_sub hl [0, 1, 2, 3] rfl) hR hF
  refine z_ifeq (tgt := 22) hx hb (dk DX11_slot 8 rfl) (by decide) (fun c12 => ?_) (fun c12 => ?_)
  · have hF := if_f c12 hF
    exact J22 m2 _ _ ls (lv_sub hl [0, 1, 2, 3] rfl) hR hF
  · have hF := if_t c12 hF
    refine lv_iload_n hx hb (dk DX11_slot 9 rfl) rfl (lv_at hl 2 rfl) ?_
    obtain ⟨z18, m16, hz17, hF⟩ := bnd_ex hF
    refine r_callSi (As := [.int a2]) (rest := [.ref (G.2.1 + 78)]) C hR (C_M_noSlot l hl0 G a2 m2 _ _ hz17) (by decide) (by decide) wX11_246 rfl rfl (Nat.le_of_ble_eq_true rfl) hl.1 ⟨Nat.zero_le _, Nat.zero_le _⟩ (dk DX11_slot 10 rfl) (fun H locs hR => ?_)
    refine z_ifeq (tgt := 26) hx hb (dk DX11_slot 11 rfl) (by decide) (fun c19 => ?_) (fun c19 => ?_)
    · have hF := if_f c19 hF
      refine lv_iconst (v := (0 : Int32)) hx hb (dk DX11_slot 14 rfl) (by decide) ?_
      exact J27 false m16 _ _ ls (lv_sub hl [0, 1, 2, 3] rfl) hR hF
    · have hF := if_t c19 hF
      exact J22 m16 _ _ ls (lv_sub hl [0, 1, 2, 3] rfl) hR hF
set_option maxHeartbeats 4000000 in
set_option maxRecDepth 100000 in
theorem C_M_streak (l : Launch) (hl0 : l.stackTraces = false) (G : GG) (a1 : Int32) (m0 : Mem) (v : Int32) (m' : Mem) (hF : F_M_streak a1 m0 = some (v, m')) : Ct l G mr0 N0 yX11_streak cX11_streak 5 (some .int) 3 [.ref (G.2.1 + 78), .int a1] m0 (some (.int v)) m' := by
  refine Ct_of hl0 (by decide) (Nat.le_of_ble_eq_true rfl) ?_
  intro p e s mid args below meth c ls C hrt hl hR
  have hx := C.1.1
  have hb := C.1.2.1
  have hl : lv_has ls 5 [(0, .ref (G.2.1 + 78)), (1, .int a1)] := hl
  unfold F_M_streak at hF
  refine lv_aload_n hx hb (dk DX11_streak 0 rfl) rfl (lv_at hl 0 rfl) ?_
  refine lv_iconst (v := (0 : Int32)) hx hb (dk DX11_streak 1 rfl) (by decide) ?_
  refine pX11_3 (x := (0 : Int32)) C hR ob78 (dk DX11_streak 2 rfl) (fun H locs hR => ?_)
  obtain ⟨m1, em1, hF⟩ := lt_ex hF
  have hR := Rp_at em1 hR
  refine lv_aload_n hx hb (dk DX11_streak 3 rfl) rfl (lv_at hl 0 rfl) ?_
  refine lv_iload_n hx hb (dk DX11_streak 4 rfl) rfl (lv_at hl 1 rfl) ?_
  refine lv_iconst (v := (0 : Int32)) hx hb (dk DX11_streak 5 rfl) (by decide) ?_
  refine lv_iconst (v := (2 : Int32)) hx hb (dk DX11_streak 6 rfl) (by decide) ?_
  obtain ⟨z4, m2, hz3, hF⟩ := bnd_ex hF
  refine r_callSi (As := [.int a1, .int (0 : Int32), .int (2 : Int32)]) (rest := [.ref (G.2.1 + 78)]) C hR (C_M_in l hl0 G a1 (0 : Int32) (2 : Int32) m1 _ _ hz3) (by decide) (by decide) wX11_67 rfl rfl (Nat.le_of_ble_eq_true rfl) hl.1 ⟨Nat.zero_le _, Nat.zero_le _⟩ (dk DX11_streak 7 rfl) (fun H locs hR => ?_)
  obtain ⟨k20_6, ek20_6, hF⟩ := lt_ex hF
  have J20 : ∀ (z6 : Bool) (m5 : Mem) (H : Heap) (locs : List Loc) (ls : Array Slot), lv_has ls 5 [(0, .ref (G.2.1 + 78)), (1, .int a1)] → Rp G mr0 N0 m5 s H locs → k20_6 z6 m5 = some (v, m') → W p l e (rmD 3) s mid args below meth c H locs 0 0 (MQ below (QR G mr0 N0 (some (.int v)) m') args s 0 0 (fun q => G.2.1 ≤ q)) (F0 mid 20 ls [.int (b2i z6), .ref (G.2.1 + 78)]) := by
    intro z6 m5 H locs ls hl hR hF
    rw [ek20_6] at hF
    refine lv_iconst (v := (1 : Int32)) hx hb (dk DX11_streak 12 rfl) (by decide) ?_
    obtain ⟨z9, m7, hz8, hF⟩ := bnd_ex hF
    refine r_callVi (As := [.int (b2i z6), .int (1 : Int32)]) (rest := []) C hR (C_M_throwsIf l hl0 G z6 (1 : Int32) m5 _ _ hz8) (by decide) (by decide) ob78 rfl wX11_227 rfl rfl (Nat.le_of_ble_eq_true rfl) hl.1 ⟨Nat.zero_le _, Nat.zero_le _⟩ (dk DX11_streak 13 rfl) (fun H locs hR => ?_)
    refine z_ifeq (tgt := 29) hx hb (dk DX11_streak 14 rfl) (by decide) (fun c24 => ?_) (fun c24 => ?_)
    · have hF := if_f c24 hF
      refine lv_iconst (v := (0 : Int32)) hx hb (dk DX11_streak 17 rfl) (by decide) ?_
      refine lv_istore_n (lv' := [(2, .int (0 : Int32)), (0, .ref (G.2.1 + 78)), (1, .int a1)]) hx hb (dk DX11_streak 18 rfl) rfl hl (by decide) rfl (fun ls hl => ?_)
      refine lv_iconst (v := (0 : Int32)) hx hb (dk DX11_streak 19 rfl) (by decide) ?_
      refine lv_istore_n (lv' := [(3, .int (0 : Int32)), (2, .int (0 : Int32)), (0, .ref (G.2.1 + 78)), (1, .int a1)]) hx hb (dk DX11_streak 20 rfl) rfl hl (by decide) rfl (fun ls hl => ?_)
      refine lv_iconst (v := (0 : Int32)) hx hb (dk DX11_streak 21 rfl) (by decide) ?_
      refine lv_istore (lv' := [(4, .int (0 : Int32)), (3, .int (0 : Int32)), (2, .int (0 : Int32)), (0, .ref (G.2.1 + 78)), (1, .int a1)]) hx hb (dk DX11_streak 22 rfl) hl (by decide) rfl (fun ls hl => ?_)
      have L36 : ∀ (nf : Nat) (x11 : Int32) (x12 : Int32) (x13 : Int32) (m10 : Mem) (H : Heap) (locs : List Loc) (ls : Array Slot), lv_has ls 5 [(0, .ref (G.2.1 + 78)), (1, .int a1), (2, .int x11), (3, .int x12), (4, .int x13)] → Rp G mr0 N0 m10 s H locs → F_M_streak_L36 a1 nf x11 x12 x13 m10 = some (v, m') → W p l e (rmD 3) s mid args below meth c H locs 0 0 (MQ below (QR G mr0 N0 (some (.int v)) m') args s 0 0 (fun q => G.2.1 ≤ q)) (F0 mid 36 ls []) := by
        intro nf
        induction nf with
        | zero =>
          intro x11 x12 x13 m10 H locs ls hl hR hF
          rw [F_M_streak_L36] at hF
          cases hF
        | succ nf ih15 =>
          intro x11 x12 x13 m10 H locs ls hl hR hF
          rw [F_M_streak_L36] at hF
          refine lv_iload hx hb (dk DX11_streak 23 rfl) (lv_at hl 4 rfl) ?_
          refine lv_aload_n hx hb (dk DX11_streak 24 rfl) rfl (lv_at hl 0 rfl) ?_
          refine gX11_13 C hR ob78 rf78_1 (dk DX11_streak 25 rfl) ?_
          refine lv_iconst (v := (5 : Int32)) hx hb (dk DX11_streak 26 rfl) (by decide) ?_
          refine r_iald C hR ob79 rfl (dk DX11_streak 27 rfl) ?_
          refine lv_icmp_ge (tgt := 79) hx hb (dk DX11_streak 28 rfl) (by decide) (fun c44 => ?_) (fun c44 => ?_)
          · have hF := if_t c44 hF
            refine lv_iload_n hx hb (dk DX11_streak 48 rfl) rfl (lv_at hl 2 rfl) ?_
            cases hF
            exact r_iret (v := x11) C hrt hR (dk DX11_streak 49 rfl)
          · have hF := if_f c44 hF
            refine lv_aload_n hx hb (dk DX11_streak 29 rfl) rfl (lv_at hl 0 rfl) ?_
            refine lv_iload hx hb (dk DX11_streak 30 rfl) (lv_at hl 4 rfl) ?_
            refine lv_iconst (v := (3 : Int32)) hx hb (dk DX11_streak 31 rfl) (by decide) ?_
            refine lv_iload_n hx hb (dk DX11_streak 32 rfl) rfl (lv_at hl 1 rfl) ?_
            refine lv_iadd hx hb (dk DX11_streak 33 rfl) ?_
            obtain ⟨z18, m16, hz17, hF⟩ := bnd_ex hF
            refine r_callVi (As := [.int x13, .int ((3 : Int32) + a1)]) (rest := []) C hR (C_M_isSuch l hl0 G x13 ((3 : Int32) + a1) m10 _ _ hz17) (by decide) (by decide) ob78 rfl wX11_470 rfl rfl (Nat.le_of_ble_eq_true rfl) hl.1 ⟨Nat.zero_le _, Nat.zero_le _⟩ (dk DX11_streak 34 rfl) (fun H locs hR => ?_)
            obtain ⟨k66_20, ek66_20, hF⟩ := lt_ex hF
            have J66 : ∀ (x20 : Int32) (m19 : Mem) (H : Heap) (locs : List Loc) (ls : Array Slot), lv_has ls 5 [(0, .ref (G.2.1 + 78)), (1, .int a1), (2, .int x11), (4, .int x13)] → Rp G mr0 N0 m19 s H locs → k66_20 x20 m19 = some (v, m') → W p l e (rmD 3) s mid args below meth c H locs 0 0 (MQ below (QR G mr0 N0 (some (.int v)) m') args s 0 0 (fun q => G.2.1 ≤ q)) (F0 mid 66 ls [.int x20]) := by
              intro x20 m19 H locs ls hl hR hF
              rw [ek66_20] at hF
              refine lv_istore_n (lv' := [(3, .int x20), (0, .ref (G.2.1 + 78)), (1, .int a1), (2, .int x11), (4, .int x13)]) hx hb (dk DX11_streak 41 rfl) rfl hl (by decide) rfl (fun ls hl => ?_)
              refine lv_iload_n hx hb (dk DX11_streak 42 rfl) rfl (lv_at hl 3 rfl) ?_
              refine lv_iload_n hx hb (dk DX11_streak 43 rfl) rfl (lv_at hl 0 rfl) ?_
              refine r_mxI C (gd q2005 rfl) (by decide) (Nat.le_of_ble_eq_true rfl) hl.1 ⟨Nat.zero_le _, Nat.zero_le _⟩ (dk DX11_streak 44 rfl) ?_
              refine lv_topi (fun x21 ex21 => ?_)
              have hF := lt_at ex21 hF
              refine lv_istore_n (lv' := [(2, .int x21), (3, .int x20), (0, .ref (G.2.1 + 78)), (1, .int a1), (4, .int x13)]) hx hb (dk DX11_streak 45 rfl) rfl hl (by decide) rfl (fun ls hl => ?_)
              obtain ⟨x22, ex22, hF⟩ := lt_ex hF
              refine lv_iinc (v := x22) (lv' := [(4, .int x22), (2, .int x21), (3, .int x20), (0, .ref (G.2.1 + 78)), (1, .int a1)]) hx hb (dk DX11_streak 46 rfl) hl (k := 4) rfl (by rw [ex22]; rfl) (by decide) rfl (fun ls hl => ?_)
              refine lv_goto (tgt := 36) hx hb (dk DX11_streak 47 rfl) (by decide) ?_
              exact ih15 x21 x20 x22 m19 _ _ ls (lv_sub hl [3, 4, 1, 2, 0] rfl) hR hF
            refine z_ifeq (tgt := 65) hx hb (dk DX11_streak 35 rfl) (by decide) (fun c56 => ?_) (fun c56 => ?_)
            · have hF := if_f c56 hF
              refine lv_iconst (v := (0 : Int32)) hx hb (dk DX11_streak 40 rfl) (by decide) ?_
              exact J66 (0 : Int32) m16 _ _ ls (lv_sub hl [0, 1, 2, 4] rfl) hR hF
            · have hF := if_t c56 hF
              refine lv_iload_n hx hb (dk DX11_streak 36 rfl) rfl (lv_at hl 3 rfl) ?_
              refine lv_iconst (v := (1 : Int32)) hx hb (dk DX11_streak 37 rfl) (by decide) ?_
              refine lv_iadd hx hb (dk DX11_streak 38 rfl) ?_
              refine lv_goto (tgt := 66) hx hb (dk DX11_streak 39 rfl) (by decide) ?_
              exact J66 (x12 + (1 : Int32)) m16 _ _ ls (lv_sub hl [0, 1, 2, 4] rfl) hR hF
      exact L36 1000000 (0 : Int32) (0 : Int32) (0 : Int32) m7 _ _ ls (lv_sub hl [3, 4, 2, 1, 0] rfl) hR hF
    · have hF := if_t c24 hF
      refine lv_iconst (v := (0 : Int32)) hx hb (dk DX11_streak 15 rfl) (by decide) ?_
      cases hF
      exact r_iret (v := (0 : Int32)) C hrt hR (dk DX11_streak 16 rfl)
  refine z_ifne (tgt := 19) hx hb (dk DX11_streak 8 rfl) (by decide) (fun c12 => ?_) (fun c12 => ?_)
  · have hF := if_t c12 hF
    refine lv_iconst (v := (0 : Int32)) hx hb (dk DX11_streak 11 rfl) (by decide) ?_
    exact J20 false m2 _ _ ls (lv_sub hl [0, 1] rfl) hR hF
  · have hF := if_f c12 hF
    refine lv_iconst (v := (1 : Int32)) hx hb (dk DX11_streak 9 rfl) (by decide) ?_
    refine lv_goto (tgt := 20) hx hb (dk DX11_streak 10 rfl) (by decide) ?_
    exact J20 true m2 _ _ ls (lv_sub hl [0, 1] rfl) hR hF
set_option maxHeartbeats 4000000 in
set_option maxRecDepth 100000 in
theorem C_M_swing (l : Launch) (hl0 : l.stackTraces = false) (G : GG) (m0 : Mem) (v : Int32) (m' : Mem) (hF : F_M_swing m0 = some (v, m')) : Ct l G mr0 N0 yX11_swing cX11_swing 4 (some .int) 6 [.ref (G.2.1 + 78)] m0 (some (.int v)) m' := by
  refine Ct_of hl0 (by decide) (Nat.le_of_ble_eq_true rfl) ?_
  intro p e s mid args below meth c ls C hrt hl hR
  have hx := C.1.1
  have hb := C.1.2.1
  have hl : lv_has ls 4 [(0, .ref (G.2.1 + 78))] := hl
  unfold F_M_swing at hF
  refine lv_aload_n hx hb (dk DX11_swing 0 rfl) rfl (lv_at hl 0 rfl) ?_
  obtain ⟨u3, m1, hz2, hF⟩ := bnd_ex hF
  refine r_callVv (As := []) (rest := []) C hR (C_M_uses l hl0 G m0 _ _ hz2) (by decide) (by decide) ob78 rfl wX11_216 rfl rfl (Nat.le_of_ble_eq_true rfl) hl.1 ⟨Nat.zero_le _, Nat.zero_le _⟩ (dk DX11_swing 1 rfl) (fun H locs hR => ?_)
  refine lv_aload_n hx hb (dk DX11_swing 2 rfl) rfl (lv_at hl 0 rfl) ?_
  refine lv_aload_n hx hb (dk DX11_swing 3 rfl) rfl (lv_at hl 0 rfl) ?_
  obtain ⟨z6, m4, hz5, hF⟩ := bnd_ex hF
  refine r_callVi (As := []) (rest := [.ref (G.2.1 + 78)]) C hR (C_M_isOn l hl0 G m1 _ _ hz5) (by decide) (by decide) ob78 rfl wX11_278 rfl rfl (Nat.le_of_ble_eq_true rfl) hl.1 ⟨Nat.zero_le _, Nat.zero_le _⟩ (dk DX11_swing 4 rfl) (fun H locs hR => ?_)
  obtain ⟨k17_8, ek17_8, hF⟩ := lt_ex hF
  have J17 : ∀ (z8 : Bool) (m7 : Mem) (H : Heap) (locs : List Loc) (ls : Array Slot), lv_has ls 4 [(0, .ref (G.2.1 + 78))] → Rp G mr0 N0 m7 s H locs → k17_8 z8 m7 = some (v, m') → W p l e (rmD 6) s mid args below meth c H locs 0 0 (MQ below (QR G mr0 N0 (some (.int v)) m') args s 0 0 (fun q => G.2.1 ≤ q)) (F0 mid 17 ls [.int (b2i z8), .ref (G.2.1 + 78)]) := by
    intro z8 m7 H locs ls hl hR hF
    rw [ek17_8] at hF
    refine lv_iconst (v := (1 : Int32)) hx hb (dk DX11_swing 9 rfl) (by decide) ?_
    obtain ⟨z11, m9, hz10, hF⟩ := bnd_ex hF
    refine r_callVi (As := [.int (b2i z8), .int (1 : Int32)]) (rest := []) C hR (C_M_throwsIf l hl0 G z8 (1 : Int32) m7 _ _ hz10) (by decide) (by decide) ob78 rfl wX11_227 rfl rfl (Nat.le_of_ble_eq_true rfl) hl.1 ⟨Nat.zero_le _, Nat.zero_le _⟩ (dk DX11_swing 10 rfl) (fun H locs hR => ?_)
    refine z_ifeq (tgt := 26) hx hb (dk DX11_swing 11 rfl) (by decide) (fun c21 => ?_) (fun c21 => ?_)
    · have hF := if_f c21 hF
      refine lv_aload_n hx hb (dk DX11_swing 14 rfl) rfl (lv_at hl 0 rfl) ?_
      refine gX11_77 C hR ob78 (dk DX11_swing 15 rfl) ?_
      refine lv_aload_n hx hb (dk DX11_swing 16 rfl) rfl (lv_at hl 0 rfl) ?_
      obtain ⟨x14, m12, hz13, hF⟩ := bnd_ex hF
      refine r_callVi (As := []) (rest := [.int (gI m9 78 10)]) C hR (C_M_size l hl0 G m9 _ _ hz13) (by decide) (by decide) ob78 rfl wX11_63 rfl rfl (Nat.le_of_ble_eq_true rfl) hl.1 ⟨Nat.zero_le _, Nat.zero_le _⟩ (dk DX11_swing 17 rfl) (fun H locs hR => ?_)
      refine lv_aload_n hx hb (dk DX11_swing 18 rfl) rfl (lv_at hl 0 rfl) ?_
      obtain ⟨x17, m15, hz16, hF⟩ := bnd_ex hF
      refine r_callVi (As := []) (rest := [.int x14, .int (gI m9 78 10)]) C hR (C_M_played l hl0 G m12 _ _ hz16) (by decide) (by decide) ob78 rfl wX11_288 rfl rfl (Nat.le_of_ble_eq_true rfl) hl.1 ⟨Nat.zero_le _, Nat.zero_le _⟩ (dk DX11_swing 19 rfl) (fun H locs hR => ?_)
      refine lv_isub hx hb (dk DX11_swing 20 rfl) ?_
      obtain ⟨k47_19, ek47_19, hF⟩ := lt_ex hF
      have J47 : ∀ (z19 : Bool) (m18 : Mem) (H : Heap) (locs : List Loc) (ls : Array Slot), lv_has ls 4 [(0, .ref (G.2.1 + 78))] → Rp G mr0 N0 m18 s H locs → k47_19 z19 m18 = some (v, m') → W p l e (rmD 6) s mid args below meth c H locs 0 0 (MQ below (QR G mr0 N0 (some (.int v)) m') args s 0 0 (fun q => G.2.1 ≤ q)) (F0 mid 47 ls [.int (b2i z19)]) := by
        intro z19 m18 H locs ls hl hR hF
        rw [ek47_19] at hF
        refine lv_istore_n (lv' := [(1, .int (b2i z19)), (0, .ref (G.2.1 + 78))]) hx hb (dk DX11_swing 25 rfl) rfl hl (by decide) rfl (fun ls hl => ?_)
        refine lv_iconst (v := (0 : Int32)) hx hb (dk DX11_swing 26 rfl) (by decide) ?_
        refine lv_istore_n (lv' := [(2, .int (0 : Int32)), (1, .int (b2i z19)), (0, .ref (G.2.1 + 78))]) hx hb (dk DX11_swing 27 rfl) rfl hl (by decide) rfl (fun ls hl => ?_)
        obtain ⟨k86_21, ek86_21, hF⟩ := lt_ex hF
        have J86 : ∀ (z21 : Bool) (m20 : Mem) (H : Heap) (locs : List Loc) (ls : Array Slot), lv_has ls 4 [(0, .ref (G.2.1 + 78)), (1, .int (b2i z21))] → Rp G mr0 N0 m20 s H locs → k86_21 z21 m20 = some (v, m') → W p l e (rmD 6) s mid args below meth c H locs 0 0 (MQ below (QR G mr0 N0 (some (.int v)) m') args s 0 0 (fun q => G.2.1 ≤ q)) (F0 mid 86 ls []) := by
          intro z21 m20 H locs ls hl hR hF
          rw [ek86_21] at hF
          refine lv_aload_n hx hb (dk DX11_swing 46 rfl) rfl (lv_at hl 0 rfl) ?_
          refine lv_iload_n hx hb (dk DX11_swing 47 rfl) rfl (lv_at hl 1 rfl) ?_
          obtain ⟨k96_23, ek96_23, hF⟩ := lt_ex hF
          have J96 : ∀ (z23 : Bool) (m22 : Mem) (H : Heap) (locs : List Loc) (ls : Array Slot), lv_has ls 4 [(0, .ref (G.2.1 + 78))] → Rp G mr0 N0 m22 s H locs → k96_23 z23 m22 = some (v, m') → W p l e (rmD 6) s mid args below meth c H locs 0 0 (MQ below (QR G mr0 N0 (some (.int v)) m') args s 0 0 (fun q => G.2.1 ≤ q)) (F0 mid 96 ls [.int (b2i z23), .ref (G.2.1 + 78)]) := by
            intro z23 m22 H locs ls hl hR hF
            rw [ek96_23] at hF
            refine lv_iconst (v := (2 : Int32)) hx hb (dk DX11_swing 52 rfl) (by decide) ?_
            obtain ⟨z26, m24, hz25, hF⟩ := bnd_ex hF
            refine r_callVi (As := [.int (b2i z23), .int (2 : Int32)]) (rest := []) C hR (C_M_throwsIf l hl0 G z23 (2 : Int32) m22 _ _ hz25) (by decide) (by decide) ob78 rfl wX11_227 rfl rfl (Nat.le_of_ble_eq_true rfl) hl.1 ⟨Nat.zero_le _, Nat.zero_le _⟩ (dk DX11_swing 53 rfl) (fun H locs hR => ?_)
            refine z_ifeq (tgt := 105) hx hb (dk DX11_swing 54 rfl) (by decide) (fun c100 => ?_) (fun c100 => ?_)
            · have hF := if_f c100 hF
              refine lv_iconst (v := (0 : Int32)) hx hb (dk DX11_swing 57 rfl) (by decide) ?_
              refine lv_istore_n (lv' := [(2, .int (0 : Int32)), (0, .ref (G.2.1 + 78))]) hx hb (dk DX11_swing 58 rfl) rfl hl (by decide) rfl (fun ls hl => ?_)
              obtain ⟨k132_27, ek132_27, hF⟩ := lt_ex hF
              have J132 : ∀ (m27 : Mem) (H : Heap) (locs : List Loc) (ls : Array Slot), lv_has ls 4 [(0, .ref (G.2.1 + 78))] → Rp G mr0 N0 m27 s H locs → k132_27  m27 = some (v, m') → W p l e (rmD 6) s mid args below meth c H locs 0 0 (MQ below (QR G mr0 N0 (some (.int v)) m') args s 0 0 (fun q => G.2.1 ≤ q)) (F0 mid 132 ls []) := by
                intro  m27 H locs ls hl hR hF
                rw [ek132_27] at hF
                refine lv_iconst (v := (0 : Int32)) hx hb (dk DX11_swing 72 rfl) (by decide) ?_
                refine lv_istore_n (lv' := [(2, .int (0 : Int32)), (0, .ref (G.2.1 + 78))]) hx hb (dk DX11_swing 73 rfl) rfl hl (by decide) rfl (fun ls hl => ?_)
                obtain ⟨k167_28, ek167_28, hF⟩ := lt_ex hF
                have J167 : ∀ (m28 : Mem) (H : Heap) (locs : List Loc) (ls : Array Slot), lv_has ls 4 [(0, .ref (G.2.1 + 78))] → Rp G mr0 N0 m28 s H locs → k167_28  m28 = some (v, m') → W p l e (rmD 6) s mid args below meth c H locs 0 0 (MQ below (QR G mr0 N0 (some (.int v)) m') args s 0 0 (fun q => G.2.1 ≤ q)) (F0 mid 167 ls []) := by
                  intro  m28 H locs ls hl hR hF
                  rw [ek167_28] at hF
                  refine lv_aload_n hx hb (dk DX11_swing 91 rfl) rfl (lv_at hl 0 rfl) ?_
                  refine gX11_13 C hR ob78 rf78_1 (dk DX11_swing 92 rfl) ?_
                  refine lv_bipush (v := (18 : Int32)) hx hb (dk DX11_swing 93 rfl) (by decide) ?_
                  refine r_iald C hR ob79 rfl (dk DX11_swing 94 rfl) ?_
                  refine lv_topi (fun x29 ex29 => ?_)
                  have hF := lt_at ex29 hF
                  refine lv_istore_n (lv' := [(2, .int x29), (0, .ref (G.2.1 + 78))]) hx hb (dk DX11_swing 95 rfl) rfl hl (by decide) rfl (fun ls hl => ?_)
                  refine lv_iconst (v := (0 : Int32)) hx hb (dk DX11_swing 96 rfl) (by decide) ?_
                  refine lv_istore_n (lv' := [(3, .int (0 : Int32)), (2, .int x29), (0, .ref (G.2.1 + 78))]) hx hb (dk DX11_swing 97 rfl) rfl hl (by decide) rfl (fun ls hl => ?_)
                  have L177 : ∀ (nf : Nat) (x31 : Int32) (m30 : Mem) (H : Heap) (locs : List Loc) (ls : Array Slot), lv_has ls 4 [(0, .ref (G.2.1 + 78)), (2, .int x29), (3, .int x31)] → Rp G mr0 N0 m30 s H locs → F_M_swing_L177 x29 nf x31 m30 = some (v, m') → W p l e (rmD 6) s mid args below meth c H locs 0 0 (MQ below (QR G mr0 N0 (some (.int v)) m') args s 0 0 (fun q => G.2.1 ≤ q)) (F0 mid 177 ls []) := by
                    intro nf
                    induction nf with
                    | zero =>
                      intro x31 m30 H locs ls hl hR hF
                      rw [F_M_swing_L177] at hF
                      cases hF
                    | succ nf ih33 =>
                      intro x31 m30 H locs ls hl hR hF
                      rw [F_M_swing_L177] at hF
                      refine lv_iload_n hx hb (dk DX11_swing 98 rfl) rfl (lv_at hl 2 rfl) ?_
                      refine lv_sipush (v := (298 : Int32)) hx hb (dk DX11_swing 99 rfl) (by decide) ?_
                      refine lv_icmp_ge (tgt := 202) hx hb (dk DX11_swing 100 rfl) (by decide) (fun c181 => ?_) (fun c181 => ?_)
                      · have hF := if_t c181 hF
                        refine lv_iload_n hx hb (dk DX11_swing 111 rfl) rfl (lv_at hl 1 rfl) ?_
                        cases hF
                        exact r_iret (v := x29) C hrt hR (dk DX11_swing 112 rfl)
                      · have hF := if_f c181 hF
                        refine lv_aload_n hx hb (dk DX11_swing 101 rfl) rfl (lv_at hl 0 rfl) ?_
                        refine gX11_13 C hR ob78 rf78_1 (dk DX11_swing 102 rfl) ?_
                        refine lv_iload_n hx hb (dk DX11_swing 103 rfl) rfl (lv_at hl 2 rfl) ?_
                        refine lv_aload_n hx hb (dk DX11_swing 104 rfl) rfl (lv_at hl 0 rfl) ?_
                        refine gX11_53 C hR ob78 rf78_26 (dk DX11_swing 105 rfl) ?_
                        refine lv_iload_n hx hb (dk DX11_swing 106 rfl) rfl (lv_at hl 2 rfl) ?_
                        obtain ⟨h34, hF⟩ := ckB_ex hF
                        refine r_iald C hR ob90 h34 (dk DX11_swing 107 rfl) ?_
                        refine lv_topi (fun x35 ex35 => ?_)
                        have hF := lt_at ex35 hF
                        obtain ⟨h37, hF⟩ := ckB_ex hF
                        refine r_iast C hR ob79 h37 (dk DX11_swing 108 rfl) (fun H locs hR => ?_)
                        obtain ⟨m36, em36, hF⟩ := lt_ex hF
                        have hR := Rp_at em36 hR
                        obtain ⟨x38, ex38, hF⟩ := lt_ex hF
                        refine lv_iinc (v := x38) (lv' := [(3, .int x38), (0, .ref (G.2.1 + 78)), (2, .int x29)]) hx hb (dk DX11_swing 109 rfl) hl (k := 2) rfl (by rw [ex38]; rfl) (by decide) rfl (fun ls hl => ?_)
                        refine lv_goto (tgt := 177) hx hb (dk DX11_swing 110 rfl) (by decide) ?_
                        exact ih33 x38 m36 _ _ ls (lv_sub hl [1, 2, 0] rfl) hR hF
                  exact L177 1000000 (0 : Int32) m28 _ _ ls (lv_sub hl [2, 1, 0] rfl) hR hF
                have L134 : ∀ (nf : Nat) (x40 : Int32) (m39 : Mem) (H : Heap) (locs : List Loc) (ls : Array Slot), lv_has ls 4 [(0, .ref (G.2.1 + 78)), (2, .int x40)] → Rp G mr0 N0 m39 s H locs → F_M_swing_L134 k167_28 nf x40 m39 = some (v, m') → W p l e (rmD 6) s mid args below meth c H locs 0 0 (MQ below (QR G mr0 N0 (some (.int v)) m') args s 0 0 (fun q => G.2.1 ≤ q)) (F0 mid 134 ls []) := by
                  intro nf
                  induction nf with
                  | zero =>
                    intro x40 m39 H locs ls hl hR hF
                    rw [F_M_swing_L134] at hF
                    cases hF
                  | succ nf ih42 =>
                    intro x40 m39 H locs ls hl hR hF
                    rw [F_M_swing_L134] at hF
                    refine lv_iload_n hx hb (dk DX11_swing 74 rfl) rfl (lv_at hl 1 rfl) ?_
                    refine lv_aload_n hx hb (dk DX11_swing 75 rfl) rfl (lv_at hl 0 rfl) ?_
                    refine gX11_77 C hR ob78 (dk DX11_swing 76 rfl) ?_
                    refine lv_icmp_ge (tgt := 167) hx hb (dk DX11_swing 77 rfl) (by decide) (fun c139 => ?_) (fun c139 => ?_)
                    · have hF := if_t c139 hF
                      exact J167 m39 _ _ ls (lv_sub hl [0] rfl) hR hF
                    · have hF := if_f c139 hF
                      refine lv_aload_n hx hb (dk DX11_swing 78 rfl) rfl (lv_at hl 0 rfl) ?_
                      obtain ⟨z45, m43, hz44, hF⟩ := bnd_ex hF
                      refine r_callVi (As := []) (rest := []) C hR (C_M_isOver l hl0 G m39 _ _ hz44) (by decide) (by decide) ob78 rfl wX11_275 rfl rfl (Nat.le_of_ble_eq_true rfl) hl.1 ⟨Nat.zero_le _, Nat.zero_le _⟩ (dk DX11_swing 79 rfl) (fun H locs hR => ?_)
                      refine z_ifne (tgt := 167) hx hb (dk DX11_swing 80 rfl) (by decide) (fun c146 => ?_) (fun c146 => ?_)
                      · have hF := if_t c146 hF
                        exact J167 m43 _ _ ls (lv_sub hl [0] rfl) hR hF
                      · have hF := if_f c146 hF
                        refine lv_aload_n hx hb (dk DX11_swing 81 rfl) rfl (lv_at hl 0 rfl) ?_
                        refine lv_aload_n hx hb (dk DX11_swing 82 rfl) rfl (lv_at hl 0 rfl) ?_
                        refine gX11_26 C hR ob78 rf78_7 (dk DX11_swing 83 rfl) ?_
                        refine lv_iload_n hx hb (dk DX11_swing 84 rfl) rfl (lv_at hl 1 rfl) ?_
                        obtain ⟨h46, hF⟩ := ckB_ex hF
                        refine r_bald C hR ob83 h46 (dk DX11_swing 85 rfl) ?_
                        refine lv_topi (fun x47 ex47 => ?_)
                        have hF := lt_at ex47 hF
                        refine lv_iconst (v := (0 : Int32)) hx hb (dk DX11_swing 86 rfl) (by decide) ?_
                        obtain ⟨x50, m48, hz49, hF⟩ := bnd_ex hF
                        refine r_callVi (As := [.int x47, .int (b2i false)]) (rest := []) C hR (C_M_plays l hl0 G x47 false m43 _ _ hz49) (by decide) (by decide) ob78 rfl wX11_313 rfl rfl (Nat.le_of_ble_eq_true rfl) hl.1 ⟨Nat.zero_le _, Nat.zero_le _⟩ (dk DX11_swing 87 rfl) (fun H locs hR => ?_)
                        refine lv_pop hx hb (dk DX11_swing 88 rfl) rfl ?_
                        obtain ⟨x51, ex51, hF⟩ := lt_ex hF
                        refine lv_iinc (v := x51) (lv' := [(2, .int x51), (0, .ref (G.2.1 + 78))]) hx hb (dk DX11_swing 89 rfl) hl (k := 1) rfl (by rw [ex51]; rfl) (by decide) rfl (fun ls hl => ?_)
                        refine lv_goto (tgt := 134) hx hb (dk DX11_swing 90 rfl) (by decide) ?_
                        exact ih42 x51 m48 _ _ ls (lv_sub hl [1, 0] rfl) hR hF
                exact L134 1000000 (0 : Int32) m27 _ _ ls (lv_sub hl [1, 0] rfl) hR hF
              have L107 : ∀ (nf : Nat) (x53 : Int32) (m52 : Mem) (H : Heap) (locs : List Loc) (ls : Array Slot), lv_has ls 4 [(0, .ref (G.2.1 + 78)), (2, .int x53)] → Rp G mr0 N0 m52 s H locs → F_M_swing_L107 k132_27 nf x53 m52 = some (v, m') → W p l e (rmD 6) s mid args below meth c H locs 0 0 (MQ below (QR G mr0 N0 (some (.int v)) m') args s 0 0 (fun q => G.2.1 ≤ q)) (F0 mid 107 ls []) := by
                intro nf
                induction nf with
                | zero =>
                  intro x53 m52 H locs ls hl hR hF
                  rw [F_M_swing_L107] at hF
                  cases hF
                | succ nf ih55 =>
                  intro x53 m52 H locs ls hl hR hF
                  rw [F_M_swing_L107] at hF
                  refine lv_iload_n hx hb (dk DX11_swing 59 rfl) rfl (lv_at hl 1 rfl) ?_
                  refine lv_sipush (v := (298 : Int32)) hx hb (dk DX11_swing 60 rfl) (by decide) ?_
                  refine lv_icmp_ge (tgt := 132) hx hb (dk DX11_swing 61 rfl) (by decide) (fun c111 => ?_) (fun c111 => ?_)
                  · have hF := if_t c111 hF
                    exact J132 m52 _ _ ls (lv_sub hl [0] rfl) hR hF
                  · have hF := if_f c111 hF
                    refine lv_aload_n hx hb (dk DX11_swing 62 rfl) rfl (lv_at hl 0 rfl) ?_
                    refine gX11_53 C hR ob78 rf78_26 (dk DX11_swing 63 rfl) ?_
                    refine lv_iload_n hx hb (dk DX11_swing 64 rfl) rfl (lv_at hl 1 rfl) ?_
                    refine lv_aload_n hx hb (dk DX11_swing 65 rfl) rfl (lv_at hl 0 rfl) ?_
                    refine gX11_13 C hR ob78 rf78_1 (dk DX11_swing 66 rfl) ?_
                    refine lv_iload_n hx hb (dk DX11_swing 67 rfl) rfl (lv_at hl 1 rfl) ?_
                    obtain ⟨h56, hF⟩ := ckB_ex hF
                    refine r_iald C hR ob79 h56 (dk DX11_swing 68 rfl) ?_
                    refine lv_topi (fun x57 ex57 => ?_)
                    have hF := lt_at ex57 hF
                    obtain ⟨h59, hF⟩ := ckB_ex hF
                    refine r_iast C hR ob90 h59 (dk DX11_swing 69 rfl) (fun H locs hR => ?_)
                    obtain ⟨m58, em58, hF⟩ := lt_ex hF
                    have hR := Rp_at em58 hR
                    obtain ⟨x60, ex60, hF⟩ := lt_ex hF
                    refine lv_iinc (v := x60) (lv' := [(2, .int x60), (0, .ref (G.2.1 + 78))]) hx hb (dk DX11_swing 70 rfl) hl (k := 1) rfl (by rw [ex60]; rfl) (by decide) rfl (fun ls hl => ?_)
                    refine lv_goto (tgt := 107) hx hb (dk DX11_swing 71 rfl) (by decide) ?_
                    exact ih55 x60 m58 _ _ ls (lv_sub hl [1, 0] rfl) hR hF
              exact L107 1000000 (0 : Int32) m24 _ _ ls (lv_sub hl [1, 0] rfl) hR hF
            · have hF := if_t c100 hF
              refine lv_iconst (v := (0 : Int32)) hx hb (dk DX11_swing 55 rfl) (by decide) ?_
              cases hF
              exact r_iret (v := (0 : Int32)) C hrt hR (dk DX11_swing 56 rfl)
          refine z_ifne (tgt := 95) hx hb (dk DX11_swing 48 rfl) (by decide) (fun c88 => ?_) (fun c88 => ?_)
          · have hF := if_t c88 hF
            refine lv_iconst (v := (0 : Int32)) hx hb (dk DX11_swing 51 rfl) (by decide) ?_
            exact J96 false m20 _ _ ls (lv_sub hl [0] rfl) hR hF
          · have hF := if_f c88 hF
            refine lv_iconst (v := (1 : Int32)) hx hb (dk DX11_swing 49 rfl) (by decide) ?_
            refine lv_goto (tgt := 96) hx hb (dk DX11_swing 50 rfl) (by decide) ?_
            exact J96 true m20 _ _ ls (lv_sub hl [0] rfl) hR hF
        have L50 : ∀ (nf : Nat) (z62 : Bool) (x63 : Int32) (m61 : Mem) (H : Heap) (locs : List Loc) (ls : Array Slot), lv_has ls 4 [(0, .ref (G.2.1 + 78)), (1, .int (b2i z62)), (2, .int x63)] → Rp G mr0 N0 m61 s H locs → F_M_swing_L50 k86_21 nf z62 x63 m61 = some (v, m') → W p l e (rmD 6) s mid args below meth c H locs 0 0 (MQ below (QR G mr0 N0 (some (.int v)) m') args s 0 0 (fun q => G.2.1 ≤ q)) (F0 mid 50 ls []) := by
          intro nf
          induction nf with
          | zero =>
            intro z62 x63 m61 H locs ls hl hR hF
            rw [F_M_swing_L50] at hF
            cases hF
          | succ nf ih65 =>
            intro z62 x63 m61 H locs ls hl hR hF
            rw [F_M_swing_L50] at hF
            refine lv_iload_n hx hb (dk DX11_swing 28 rfl) rfl (lv_at hl 2 rfl) ?_
            refine lv_aload_n hx hb (dk DX11_swing 29 rfl) rfl (lv_at hl 0 rfl) ?_
            refine gX11_77 C hR ob78 (dk DX11_swing 30 rfl) ?_
            refine lv_icmp_ge (tgt := 86) hx hb (dk DX11_swing 31 rfl) (by decide) (fun c55 => ?_) (fun c55 => ?_)
            · have hF := if_t c55 hF
              exact J86 z62 m61 _ _ ls (lv_sub hl [0, 1] rfl) hR hF
            · have hF := if_f c55 hF
              refine lv_iload_n hx hb (dk DX11_swing 32 rfl) rfl (lv_at hl 1 rfl) ?_
              refine z_ifeq (tgt := 86) hx hb (dk DX11_swing 33 rfl) (by decide) (fun c59 => ?_) (fun c59 => ?_)
              · have hF := if_f c59 hF
                exact J86 z62 m61 _ _ ls (lv_sub hl [0, 1] rfl) hR hF
              · have hF := if_t c59 hF
                refine lv_aload_n hx hb (dk DX11_swing 34 rfl) rfl (lv_at hl 0 rfl) ?_
                refine gX11_26 C hR ob78 rf78_7 (dk DX11_swing 35 rfl) ?_
                refine lv_iload_n hx hb (dk DX11_swing 36 rfl) rfl (lv_at hl 2 rfl) ?_
                obtain ⟨h66, hF⟩ := ckB_ex hF
                refine r_bald C hR ob83 h66 (dk DX11_swing 37 rfl) ?_
                refine lv_topi (fun x67 ex67 => ?_)
                have hF := lt_at ex67 hF
                obtain ⟨z70, m68, hz69, hF⟩ := bnd_ex hF
                refine r_callSi (As := [.int x67]) (rest := []) C hR (C_M_noSlot l hl0 G x67 m61 _ _ hz69) (by decide) (by decide) wX11_246 rfl rfl (Nat.le_of_ble_eq_true rfl) hl.1 ⟨Nat.zero_le _, Nat.zero_le _⟩ (dk DX11_swing 38 rfl) (fun H locs hR => ?_)
                obtain ⟨k79_72, ek79_72, hF⟩ := lt_ex hF
                have J79 : ∀ (z72 : Bool) (m71 : Mem) (H : Heap) (locs : List Loc) (ls : Array Slot), lv_has ls 4 [(0, .ref (G.2.1 + 78)), (2, .int x63)] → Rp G mr0 N0 m71 s H locs → k79_72 z72 m71 = some (v, m') → W p l e (rmD 6) s mid args below meth c H locs 0 0 (MQ below (QR G mr0 N0 (some (.int v)) m') args s 0 0 (fun q => G.2.1 ≤ q)) (F0 mid 79 ls [.int (b2i z72)]) := by
                  intro z72 m71 H locs ls hl hR hF
                  rw [ek79_72] at hF
                  refine lv_istore_n (lv' := [(1, .int (b2i z72)), (0, .ref (G.2.1 + 78)), (2, .int x63)]) hx hb (dk DX11_swing 43 rfl) rfl hl (by decide) rfl (fun ls hl => ?_)
                  obtain ⟨x73, ex73, hF⟩ := lt_ex hF
                  refine lv_iinc (v := x73) (lv' := [(2, .int x73), (1, .int (b2i z72)), (0, .ref (G.2.1 + 78))]) hx hb (dk DX11_swing 44 rfl) hl (k := 2) rfl (by rw [ex73]; rfl) (by decide) rfl (fun ls hl => ?_)
                  refine lv_goto (tgt := 50) hx hb (dk DX11_swing 45 rfl) (by decide) ?_
                  exact ih65 z72 x73 m71 _ _ ls (lv_sub hl [2, 1, 0] rfl) hR hF
                refine z_ifne (tgt := 78) hx hb (dk DX11_swing 39 rfl) (by decide) (fun c71 => ?_) (fun c71 => ?_)
                · have hF := if_t c71 hF
                  refine lv_iconst (v := (0 : Int32)) hx hb (dk DX11_swing 42 rfl) (by decide) ?_
                  exact J79 false m68 _ _ ls (lv_sub hl [0, 2] rfl) hR hF
                · have hF := if_f c71 hF
                  refine lv_iconst (v := (1 : Int32)) hx hb (dk DX11_swing 40 rfl) (by decide) ?_
                  refine lv_goto (tgt := 79) hx hb (dk DX11_swing 41 rfl) (by decide) ?_
                  exact J79 true m68 _ _ ls (lv_sub hl [0, 2] rfl) hR hF
        exact L50 1000000 z19 (0 : Int32) m18 _ _ ls (lv_sub hl [2, 1, 0] rfl) hR hF
      refine lv_icmp_ne (tgt := 46) hx hb (dk DX11_swing 21 rfl) (by decide) (fun c39 => ?_) (fun c39 => ?_)
      · have hF := if_f c39 hF
        refine lv_iconst (v := (0 : Int32)) hx hb (dk DX11_swing 24 rfl) (by decide) ?_
        exact J47 false m15 _ _ ls (lv_sub hl [0] rfl) hR hF
      · have hF := if_t c39 hF
        refine lv_iconst (v := (1 : Int32)) hx hb (dk DX11_swing 22 rfl) (by decide) ?_
        refine lv_goto (tgt := 47) hx hb (dk DX11_swing 23 rfl) (by decide) ?_
        exact J47 true m15 _ _ ls (lv_sub hl [0] rfl) hR hF
    · have hF := if_t c21 hF
      refine lv_iconst (v := (0 : Int32)) hx hb (dk DX11_swing 12 rfl) (by decide) ?_
      cases hF
      exact r_iret (v := (0 : Int32)) C hrt hR (dk DX11_swing 13 rfl)
  refine z_ifne (tgt := 16) hx hb (dk DX11_swing 5 rfl) (by decide) (fun c9 => ?_) (fun c9 => ?_)
  · have hF := if_t c9 hF
    refine lv_iconst (v := (0 : Int32)) hx hb (dk DX11_swing 8 rfl) (by decide) ?_
    exact J17 false m4 _ _ ls (lv_sub hl [0] rfl) hR hF
  · have hF := if_f c9 hF
    refine lv_iconst (v := (1 : Int32)) hx hb (dk DX11_swing 6 rfl) (by decide) ?_
    refine lv_goto (tgt := 17) hx hb (dk DX11_swing 7 rfl) (by decide) ?_
    exact J17 true m4 _ _ ls (lv_sub hl [0] rfl) hR hF
set_option maxHeartbeats 4000000 in
set_option maxRecDepth 100000 in
theorem C_M_table (l : Launch) (hl0 : l.stackTraces = false) (G : GG) (a1 : Int32) (a2 : Int32) (a3 : Int32) (a4 : Bool) (m0 : Mem) (v : Int32) (m' : Mem) (hF : F_M_table a1 a2 a3 a4 m0 = some (v, m')) : Ct l G mr0 N0 yX11_table cX11_table 8 (some .int) 4 [.ref (G.2.1 + 78), .int a1, .int a2, .int a3, .int (b2i a4)] m0 (some (.int v)) m' := by
  refine Ct_of hl0 (by decide) (Nat.le_of_ble_eq_true rfl) ?_
  intro p e s mid args below meth c ls C hrt hl hR
  have hx := C.1.1
  have hb := C.1.2.1
  have hl : lv_has ls 8 [(0, .ref (G.2.1 + 78)), (1, .int a1), (2, .int a2), (3, .int a3), (4, .int (b2i a4))] := hl
  unfold F_M_table at hF
  refine lv_aload_n hx hb (dk DX11_table 0 rfl) rfl (lv_at hl 0 rfl) ?_
  refine lv_iconst (v := (0 : Int32)) hx hb (dk DX11_table 1 rfl) (by decide) ?_
  refine pX11_3 (x := (0 : Int32)) C hR ob78 (dk DX11_table 2 rfl) (fun H locs hR => ?_)
  obtain ⟨m1, em1, hF⟩ := lt_ex hF
  have hR := Rp_at em1 hR
  refine lv_aload_n hx hb (dk DX11_table 3 rfl) rfl (lv_at hl 0 rfl) ?_
  refine lv_aload_n hx hb (dk DX11_table 4 rfl) rfl (lv_at hl 0 rfl) ?_
  refine lv_iload_n hx hb (dk DX11_table 5 rfl) rfl (lv_at hl 1 rfl) ?_
  obtain ⟨z4, m2, hz3, hF⟩ := bnd_ex hF
  refine r_callVi (As := [.int a1]) (rest := [.ref (G.2.1 + 78)]) C hR (C_M_noSession l hl0 G a1 m1 _ _ hz3) (by decide) (by decide) ob78 rfl wX11_253 rfl rfl (Nat.le_of_ble_eq_true rfl) hl.1 ⟨Nat.zero_le _, Nat.zero_le _⟩ (dk DX11_table 6 rfl) (fun H locs hR => ?_)
  obtain ⟨k33_6, ek33_6, hF⟩ := lt_ex hF
  have J33 : ∀ (z6 : Bool) (m5 : Mem) (H : Heap) (locs : List Loc) (ls : Array Slot), lv_has ls 8 [(0, .ref (G.2.1 + 78)), (1, .int a1), (2, .int a2), (3, .int a3), (4, .int (b2i a4))] → Rp G mr0 N0 m5 s H locs → k33_6 z6 m5 = some (v, m') → W p l e (rmD 4) s mid args below meth c H locs 0 0 (MQ below (QR G mr0 N0 (some (.int v)) m') args s 0 0 (fun q => G.2.1 ≤ q)) (F0 mid 33 ls [.int (b2i z6), .ref (G.2.1 + 78)]) := by
    intro z6 m5 H locs ls hl hR hF
    rw [ek33_6] at hF
    refine lv_iconst (v := (1 : Int32)) hx hb (dk DX11_table 17 rfl) (by decide) ?_
    obtain ⟨z9, m7, hz8, hF⟩ := bnd_ex hF
    refine r_callVi (As := [.int (b2i z6), .int (1 : Int32)]) (rest := []) C hR (C_M_throwsIf l hl0 G z6 (1 : Int32) m5 _ _ hz8) (by decide) (by decide) ob78 rfl wX11_227 rfl rfl (Nat.le_of_ble_eq_true rfl) hl.1 ⟨Nat.zero_le _, Nat.zero_le _⟩ (dk DX11_table 18 rfl) (fun H locs hR => ?_)
    refine z_ifeq (tgt := 42) hx hb (dk DX11_table 19 rfl) (by decide) (fun c37 => ?_) (fun c37 => ?_)
    · have hF := if_f c37 hF
      refine lv_aload_n hx hb (dk DX11_table 22 rfl) rfl (lv_at hl 0 rfl) ?_
      refine lv_iload_n hx hb (dk DX11_table 23 rfl) rfl (lv_at hl 1 rfl) ?_
      refine lv_iload_n hx hb (dk DX11_table 24 rfl) rfl (lv_at hl 2 rfl) ?_
      refine lv_iload_n hx hb (dk DX11_table 25 rfl) rfl (lv_at hl 3 rfl) ?_
      obtain ⟨x12, m10, hz11, hF⟩ := bnd_ex hF
      refine r_callVi (As := [.int a1, .int a2, .int a3]) (rest := []) C hR (C_M_levelOf l hl0 G a1 a2 a3 m7 _ _ hz11) (by decide) (by decide) ob78 rfl wX11_259 rfl rfl (Nat.le_of_ble_eq_true rfl) hl.1 ⟨Nat.zero_le _, Nat.zero_le _⟩ (dk DX11_table 26 rfl) (fun H locs hR => ?_)
      refine lv_istore (lv' := [(5, .int x12), (0, .ref (G.2.1 + 78)), (1, .int a1), (2, .int a2), (3, .int a3), (4, .int (b2i a4))]) hx hb (dk DX11_table 27 rfl) hl (by decide) rfl (fun ls hl => ?_)
      refine lv_iconst (v := (0 : Int32)) hx hb (dk DX11_table 28 rfl) (by decide) ?_
      refine lv_istore (lv' := [(6, .int (0 : Int32)), (5, .int x12), (0, .ref (G.2.1 + 78)), (1, .int a1), (2, .int a2), (3, .int a3), (4, .int (b2i a4))]) hx hb (dk DX11_table 29 rfl) hl (by decide) rfl (fun ls hl => ?_)
      refine lv_iconst (v := (0 : Int32)) hx hb (dk DX11_table 30 rfl) (by decide) ?_
      refine lv_istore (lv' := [(7, .int (0 : Int32)), (6, .int (0 : Int32)), (5, .int x12), (0, .ref (G.2.1 + 78)), (1, .int a1), (2, .int a2), (3, .int a3), (4, .int (b2i a4))]) hx hb (dk DX11_table 31 rfl) hl (by decide) rfl (fun ls hl => ?_)
      have L57 : ∀ (nf : Nat) (x14 : Int32) (x15 : Int32) (m13 : Mem) (H : Heap) (locs : List Loc) (ls : Array Slot), lv_has ls 8 [(0, .ref (G.2.1 + 78)), (1, .int a1), (4, .int (b2i a4)), (5, .int x12), (6, .int x14), (7, .int x15)] → Rp G mr0 N0 m13 s H locs → F_M_table_L57 a1 a4 x12 nf x14 x15 m13 = some (v, m') → W p l e (rmD 4) s mid args below meth c H locs 0 0 (MQ below (QR G mr0 N0 (some (.int v)) m') args s 0 0 (fun q => G.2.1 ≤ q)) (F0 mid 57 ls []) := by
        intro nf
        induction nf with
        | zero =>
          intro x14 x15 m13 H locs ls hl hR hF
          rw [F_M_table_L57] at hF
          cases hF
        | succ nf ih17 =>
          intro x14 x15 m13 H locs ls hl hR hF
          rw [F_M_table_L57] at hF
          refine lv_iload hx hb (dk DX11_table 32 rfl) (lv_at hl 5 rfl) ?_
          refine lv_iconst (v := (4 : Int32)) hx hb (dk DX11_table 33 rfl) (by decide) ?_
          refine lv_icmp_ge (tgt := 100) hx hb (dk DX11_table 34 rfl) (by decide) (fun c60 => ?_) (fun c60 => ?_)
          · have hF := if_t c60 hF
            refine lv_iload hx hb (dk DX11_table 53 rfl) (lv_at hl 4 rfl) ?_
            cases hF
            exact r_iret (v := x14) C hrt hR (dk DX11_table 54 rfl)
          · have hF := if_f c60 hF
            refine lv_aload_n hx hb (dk DX11_table 35 rfl) rfl (lv_at hl 0 rfl) ?_
            refine lv_iload_n hx hb (dk DX11_table 36 rfl) rfl (lv_at hl 1 rfl) ?_
            obtain ⟨z20, m18, hz19, hF⟩ := bnd_ex hF
            refine r_callVi (As := [.int a1]) (rest := []) C hR (C_M_isRain l hl0 G a1 m13 _ _ hz19) (by decide) (by decide) ob78 rfl wX11_262 rfl rfl (Nat.le_of_ble_eq_true rfl) hl.1 ⟨Nat.zero_le _, Nat.zero_le _⟩ (dk DX11_table 37 rfl) (fun H locs hR => ?_)
            refine z_ifne (tgt := 100) hx hb (dk DX11_table 38 rfl) (by decide) (fun c68 => ?_) (fun c68 => ?_)
            · have hF := if_t c68 hF
              refine lv_iload hx hb (dk DX11_table 53 rfl) (lv_at hl 4 rfl) ?_
              cases hF
              exact r_iret (v := x14) C hrt hR (dk DX11_table 54 rfl)
            · have hF := if_f c68 hF
              refine lv_iload hx hb (dk DX11_table 39 rfl) (lv_at hl 4 rfl) ?_
              refine lv_aload_n hx hb (dk DX11_table 40 rfl) rfl (lv_at hl 0 rfl) ?_
              refine lv_iload hx hb (dk DX11_table 41 rfl) (lv_at hl 3 rfl) ?_
              refine lv_iload hx hb (dk DX11_table 42 rfl) (lv_at hl 5 rfl) ?_
              refine lv_iload hx hb (dk DX11_table 43 rfl) (lv_at hl 2 rfl) ?_
              obtain ⟨k88_22, ek88_22, hF⟩ := lt_ex hF
              have J88 : ∀ (z22 : Bool) (m21 : Mem) (H : Heap) (locs : List Loc) (ls : Array Slot), lv_has ls 8 [(0, .ref (G.2.1 + 78)), (1, .int a1), (4, .int (b2i a4)), (5, .int x12), (7, .int x15)] → Rp G mr0 N0 m21 s H locs → k88_22 z22 m21 = some (v, m') → W p l e (rmD 4) s mid args below meth c H locs 0 0 (MQ below (QR G mr0 N0 (some (.int v)) m') args s 0 0 (fun q => G.2.1 ≤ q)) (F0 mid 88 ls [.int (b2i z22), .int x15, .int x12, .ref (G.2.1 + 78), .int x14]) := by
                intro z22 m21 H locs ls hl hR hF
                rw [ek88_22] at hF
                obtain ⟨x25, m23, hz24, hF⟩ := bnd_ex hF
                refine r_callVi (As := [.int x12, .int x15, .int (b2i z22)]) (rest := [.int x14]) C hR (C_M_ofSlot l hl0 G x12 x15 (b2i z22) m21 _ _ hz24) (by decide) (by decide) ob78 rfl wX11_249 rfl rfl (Nat.le_of_ble_eq_true rfl) hl.1 ⟨Nat.zero_le _, Nat.zero_le _⟩ (dk DX11_table 48 rfl) (fun H locs hR => ?_)
                refine lv_iadd hx hb (dk DX11_table 49 rfl) ?_
                refine lv_topi (fun x26 ex26 => ?_)
                have hF := lt_at ex26 hF
                refine lv_istore (lv' := [(6, .int x26), (0, .ref (G.2.1 + 78)), (1, .int a1), (4, .int (b2i a4)), (5, .int x12), (7, .int x15)]) hx hb (dk DX11_table 50 rfl) hl (by decide) rfl (fun ls hl => ?_)
                obtain ⟨x27, ex27, hF⟩ := lt_ex hF
                refine lv_iinc (v := x27) (lv' := [(7, .int x27), (6, .int x26), (0, .ref (G.2.1 + 78)), (1, .int a1), (4, .int (b2i a4)), (5, .int x12)]) hx hb (dk DX11_table 51 rfl) hl (k := 5) rfl (by rw [ex27]; rfl) (by decide) rfl (fun ls hl => ?_)
                refine lv_goto (tgt := 57) hx hb (dk DX11_table 52 rfl) (by decide) ?_
                exact ih17 x26 x27 m23 _ _ ls (lv_sub hl [2, 3, 4, 5, 1, 0] rfl) hR hF
              refine z_ifeq (tgt := 87) hx hb (dk DX11_table 44 rfl) (by decide) (fun c80 => ?_) (fun c80 => ?_)
              · have hF := if_f c80 hF
                refine lv_iconst (v := (0 : Int32)) hx hb (dk DX11_table 47 rfl) (by decide) ?_
                exact J88 false m18 _ _ ls (lv_sub hl [0, 1, 2, 3, 5] rfl) hR hF
              · have hF := if_t c80 hF
                refine lv_iconst (v := (1 : Int32)) hx hb (dk DX11_table 45 rfl) (by decide) ?_
                refine lv_goto (tgt := 88) hx hb (dk DX11_table 46 rfl) (by decide) ?_
                exact J88 true m18 _ _ ls (lv_sub hl [0, 1, 2, 3, 5] rfl) hR hF
      exact L57 1000000 (0 : Int32) (0 : Int32) m10 _ _ ls (lv_sub hl [3, 4, 7, 2, 1, 0] rfl) hR hF
    · have hF := if_t c37 hF
      refine lv_iconst (v := (0 : Int32)) hx hb (dk DX11_table 20 rfl) (by decide) ?_
      cases hF
      exact r_iret (v := (0 : Int32)) C hrt hR (dk DX11_table 21 rfl)
  obtain ⟨k28_28, ek28_28, hF⟩ := lt_ex hF
  have J28 : ∀ (m28 : Mem) (H : Heap) (locs : List Loc) (ls : Array Slot), lv_has ls 8 [(0, .ref (G.2.1 + 78)), (1, .int a1), (2, .int a2), (3, .int a3), (4, .int (b2i a4))] → Rp G mr0 N0 m28 s H locs → k28_28  m28 = some (v, m') → W p l e (rmD 4) s mid args below meth c H locs 0 0 (MQ below (QR G mr0 N0 (some (.int v)) m') args s 0 0 (fun q => G.2.1 ≤ q)) (F0 mid 28 ls [.ref (G.2.1 + 78)]) := by
    intro  m28 H locs ls hl hR hF
    rw [ek28_28] at hF
    refine lv_iconst (v := (1 : Int32)) hx hb (dk DX11_table 14 rfl) (by decide) ?_
    refine lv_goto (tgt := 33) hx hb (dk DX11_table 15 rfl) (by decide) ?_
    exact J33 true m28 _ _ ls (lv_sub hl [0, 1, 2, 3, 4] rfl) hR hF
  refine z_ifne (tgt := 28) hx hb (dk DX11_table 7 rfl) (by decide) (fun c11 => ?_) (fun c11 => ?_)
  · have hF := if_t c11 hF
    exact J28 m2 _ _ ls (lv_sub hl [0, 1, 2, 3, 4] rfl) hR hF
  · have hF := if_f c11 hF
    refine lv_iload_n hx hb (dk DX11_table 8 rfl) rfl (lv_at hl 2 rfl) ?_
    obtain ⟨z31, m29, hz30, hF⟩ := bnd_ex hF
    refine r_callSi (As := [.int a2]) (rest := [.ref (G.2.1 + 78)]) C hR (C_M_noInnings l hl0 G a2 m2 _ _ hz30) (by decide) (by decide) wX11_256 rfl rfl (Nat.le_of_ble_eq_true rfl) hl.1 ⟨Nat.zero_le _, Nat.zero_le _⟩ (dk DX11_table 9 rfl) (fun H locs hR => ?_)
    refine z_ifne (tgt := 28) hx hb (dk DX11_table 10 rfl) (by decide) (fun c18 => ?_) (fun c18 => ?_)
    · have hF := if_t c18 hF
      exact J28 m29 _ _ ls (lv_sub hl [0, 1, 2, 3, 4] rfl) hR hF
    · have hF := if_f c18 hF
      refine lv_iload_n hx hb (dk DX11_table 11 rfl) rfl (lv_at hl 3 rfl) ?_
      obtain ⟨z34, m32, hz33, hF⟩ := bnd_ex hF
      refine r_callSi (As := [.int a3]) (rest := [.ref (G.2.1 + 78)]) C hR (C_M_noSide l hl0 G a3 m29 _ _ hz33) (by decide) (by decide) wX11_243 rfl rfl (Nat.le_of_ble_eq_true rfl) hl.1 ⟨Nat.zero_le _, Nat.zero_le _⟩ (dk DX11_table 12 rfl) (fun H locs hR => ?_)
      refine z_ifeq (tgt := 32) hx hb (dk DX11_table 13 rfl) (by decide) (fun c25 => ?_) (fun c25 => ?_)
      · have hF := if_f c25 hF
        refine lv_iconst (v := (0 : Int32)) hx hb (dk DX11_table 16 rfl) (by decide) ?_
        exact J33 false m32 _ _ ls (lv_sub hl [0, 1, 2, 3, 4] rfl) hR hF
      · have hF := if_t c25 hF
        exact J28 m32 _ _ ls (lv_sub hl [0, 1, 2, 3, 4] rfl) hR hF
set_option maxHeartbeats 4000000 in
set_option maxRecDepth 100000 in
theorem C_M_target (l : Launch) (hl0 : l.stackTraces = false) (G : GG) (a1 : Bool) (m0 : Mem) (v : Int32) (m' : Mem) (hF : F_M_target a1 m0 = some (v, m')) : Ct l G mr0 N0 yX11_target cX11_target 4 (some .int) 4 [.ref (G.2.1 + 78), .int (b2i a1)] m0 (some (.int v)) m' := by
  refine Ct_of hl0 (by decide) (Nat.le_of_ble_eq_true rfl) ?_
  intro p e s mid args below meth c ls C hrt hl hR
  have hx := C.1.1
  have hb := C.1.2.1
  have hl : lv_has ls 4 [(0, .ref (G.2.1 + 78)), (1, .int (b2i a1))] := hl
  unfold F_M_target at hF
  refine lv_aload_n hx hb (dk DX11_target 0 rfl) rfl (lv_at hl 0 rfl) ?_
  refine lv_iconst (v := (0 : Int32)) hx hb (dk DX11_target 1 rfl) (by decide) ?_
  refine pX11_3 (x := (0 : Int32)) C hR ob78 (dk DX11_target 2 rfl) (fun H locs hR => ?_)
  obtain ⟨m1, em1, hF⟩ := lt_ex hF
  have hR := Rp_at em1 hR
  refine lv_aload_n hx hb (dk DX11_target 3 rfl) rfl (lv_at hl 0 rfl) ?_
  refine lv_aload_n hx hb (dk DX11_target 4 rfl) rfl (lv_at hl 0 rfl) ?_
  obtain ⟨z4, m2, hz3, hF⟩ := bnd_ex hF
  refine r_callVi (As := []) (rest := [.ref (G.2.1 + 78)]) C hR (C_M_canHold l hl0 G m1 _ _ hz3) (by decide) (by decide) ob78 rfl wX11_317 rfl rfl (Nat.le_of_ble_eq_true rfl) hl.1 ⟨Nat.zero_le _, Nat.zero_le _⟩ (dk DX11_target 5 rfl) (fun H locs hR => ?_)
  obtain ⟨k18_6, ek18_6, hF⟩ := lt_ex hF
  have J18 : ∀ (z6 : Bool) (m5 : Mem) (H : Heap) (locs : List Loc) (ls : Array Slot), lv_has ls 4 [(0, .ref (G.2.1 + 78)), (1, .int (b2i a1))] → Rp G mr0 N0 m5 s H locs → k18_6 z6 m5 = some (v, m') → W p l e (rmD 4) s mid args below meth c H locs 0 0 (MQ below (QR G mr0 N0 (some (.int v)) m') args s 0 0 (fun q => G.2.1 ≤ q)) (F0 mid 18 ls [.int (b2i z6), .ref (G.2.1 + 78)]) := by
    intro z6 m5 H locs ls hl hR hF
    rw [ek18_6] at hF
    refine lv_iconst (v := (1 : Int32)) hx hb (dk DX11_target 10 rfl) (by decide) ?_
    obtain ⟨z9, m7, hz8, hF⟩ := bnd_ex hF
    refine r_callVi (As := [.int (b2i z6), .int (1 : Int32)]) (rest := []) C hR (C_M_throwsIf l hl0 G z6 (1 : Int32) m5 _ _ hz8) (by decide) (by decide) ob78 rfl wX11_227 rfl rfl (Nat.le_of_ble_eq_true rfl) hl.1 ⟨Nat.zero_le _, Nat.zero_le _⟩ (dk DX11_target 11 rfl) (fun H locs hR => ?_)
    refine z_ifeq (tgt := 27) hx hb (dk DX11_target 12 rfl) (by decide) (fun c22 => ?_) (fun c22 => ?_)
    · have hF := if_f c22 hF
      refine lv_iconst (v := (1 : Int32)) hx hb (dk DX11_target 15 rfl) (by decide) ?_
      refine lv_aload_n hx hb (dk DX11_target 16 rfl) rfl (lv_at hl 0 rfl) ?_
      refine lv_aload_n hx hb (dk DX11_target 17 rfl) rfl (lv_at hl 0 rfl) ?_
      obtain ⟨x12, m10, hz11, hF⟩ := bnd_ex hF
      refine r_callVi (As := []) (rest := [.ref (G.2.1 + 78), .int (1 : Int32)]) C hR (C_M_batter l hl0 G m7 _ _ hz11) (by decide) (by decide) ob78 rfl wX11_285 rfl rfl (Nat.le_of_ble_eq_true rfl) hl.1 ⟨Nat.zero_le _, Nat.zero_le _⟩ (dk DX11_target 18 rfl) (fun H locs hR => ?_)
      obtain ⟨x15, m13, hz14, hF⟩ := bnd_ex hF
      refine r_callVi (As := [.int x12]) (rest := [.int (1 : Int32)]) C hR (C_M_leadOf l hl0 G x12 m10 _ _ hz14) (by decide) (by decide) ob78 rfl wX11_281 rfl rfl (Nat.le_of_ble_eq_true rfl) hl.1 ⟨Nat.zero_le _, Nat.zero_le _⟩ (dk DX11_target 19 rfl) (fun H locs hR => ?_)
      refine lv_isub hx hb (dk DX11_target 20 rfl) ?_
      refine lv_topi (fun x16 ex16 => ?_)
      have hF := lt_at ex16 hF
      refine lv_istore_n (lv' := [(2, .int x16), (0, .ref (G.2.1 + 78)), (1, .int (b2i a1))]) hx hb (dk DX11_target 21 rfl) rfl hl (by decide) rfl (fun ls hl => ?_)
      refine lv_aload_n hx hb (dk DX11_target 22 rfl) rfl (lv_at hl 1 rfl) ?_
      obtain ⟨x19, m17, hz18, hF⟩ := bnd_ex hF
      refine r_callVi (As := []) (rest := []) C hR (C_M_size l hl0 G m13 _ _ hz18) (by decide) (by decide) ob78 rfl wX11_63 rfl rfl (Nat.le_of_ble_eq_true rfl) hl.1 ⟨Nat.zero_le _, Nat.zero_le _⟩ (dk DX11_target 23 rfl) (fun H locs hR => ?_)
      refine lv_aload_n hx hb (dk DX11_target 24 rfl) rfl (lv_at hl 1 rfl) ?_
      obtain ⟨x22, m20, hz21, hF⟩ := bnd_ex hF
      refine r_callVi (As := []) (rest := [.int x19]) C hR (C_M_played l hl0 G m17 _ _ hz21) (by decide) (by decide) ob78 rfl wX11_288 rfl rfl (Nat.le_of_ble_eq_true rfl) hl.1 ⟨Nat.zero_le _, Nat.zero_le _⟩ (dk DX11_target 25 rfl) (fun H locs hR => ?_)
      refine lv_isub hx hb (dk DX11_target 26 rfl) ?_
      refine lv_topi (fun x23 ex23 => ?_)
      have hF := lt_at ex23 hF
      refine lv_istore_n (lv' := [(3, .int x23), (2, .int x16), (0, .ref (G.2.1 + 78)), (1, .int (b2i a1))]) hx hb (dk DX11_target 27 rfl) rfl hl (by decide) rfl (fun ls hl => ?_)
      refine lv_iload_n hx hb (dk DX11_target 28 rfl) rfl (lv_at hl 3 rfl) ?_
      refine z_ifeq (tgt := 62) hx hb (dk DX11_target 29 rfl) (by decide) (fun c49 => ?_) (fun c49 => ?_)
      · have hF := if_f c49 hF
        refine lv_iload_n hx hb (dk DX11_target 38 rfl) rfl (lv_at hl 1 rfl) ?_
        cases hF
        exact r_iret (v := x16) C hrt hR (dk DX11_target 39 rfl)
      · have hF := if_t c49 hF
        refine lv_iload_n hx hb (dk DX11_target 30 rfl) rfl (lv_at hl 1 rfl) ?_
        refine lv_iload_n hx hb (dk DX11_target 31 rfl) rfl (lv_at hl 0 rfl) ?_
        refine lv_iadd hx hb (dk DX11_target 32 rfl) ?_
        refine lv_iconst (v := (1 : Int32)) hx hb (dk DX11_target 33 rfl) (by decide) ?_
        refine lv_isub hx hb (dk DX11_target 34 rfl) ?_
        refine lv_iload_n hx hb (dk DX11_target 35 rfl) rfl (lv_at hl 0 rfl) ?_
        obtain ⟨h24, hF⟩ := ckB_ex hF
        refine lv_idiv hx hb (dk DX11_target 36 rfl) (by simpa using h24) ?_
        refine lv_goto (tgt := 63) hx hb (dk DX11_target 37 rfl) (by decide) ?_
        cases hF
        exact r_iret (v := ((x16 + x23) - (1 : Int32)) / x23) C hrt hR (dk DX11_target 39 rfl)
    · have hF := if_t c22 hF
      refine lv_iconst (v := (0 : Int32)) hx hb (dk DX11_target 13 rfl) (by decide) ?_
      cases hF
      exact r_iret (v := (0 : Int32)) C hrt hR (dk DX11_target 14 rfl)
  refine z_ifne (tgt := 17) hx hb (dk DX11_target 6 rfl) (by decide) (fun c10 => ?_) (fun c10 => ?_)
  · have hF := if_t c10 hF
    refine lv_iconst (v := (0 : Int32)) hx hb (dk DX11_target 9 rfl) (by decide) ?_
    exact J18 false m2 _ _ ls (lv_sub hl [0, 1] rfl) hR hF
  · have hF := if_f c10 hF
    refine lv_iconst (v := (1 : Int32)) hx hb (dk DX11_target 7 rfl) (by decide) ?_
    refine lv_goto (tgt := 18) hx hb (dk DX11_target 8 rfl) (by decide) ?_
    exact J18 true m2 _ _ ls (lv_sub hl [0, 1] rfl) hR hF
set_option maxHeartbeats 4000000 in
set_option maxRecDepth 100000 in
theorem C_M_thrown (l : Launch) (hl0 : l.stackTraces = false) (G : GG) (m0 : Mem) (v : Int32) (m' : Mem) (hF : F_M_thrown m0 = some (v, m')) : Ct l G mr0 N0 yX11_thrown cX11_thrown 1 (some .int) 1 [.ref (G.2.1 + 78)] m0 (some (.int v)) m' := by
  refine Ct_of hl0 (by decide) (Nat.le_of_ble_eq_true rfl) ?_
  intro p e s mid args below meth c ls C hrt hl hR
  have hx := C.1.1
  have hb := C.1.2.1
  have hl : lv_has ls 1 [(0, .ref (G.2.1 + 78))] := hl
  unfold F_M_thrown at hF
  refine lv_aload_n hx hb (dk DX11_thrown 0 rfl) rfl (lv_at hl 0 rfl) ?_
  refine gX11_3 C hR ob78 (dk DX11_thrown 1 rfl) ?_
  cases hF
  exact r_iret (v := gI m0 78 0) C hrt hR (dk DX11_thrown 2 rfl)
set_option maxHeartbeats 4000000 in
set_option maxRecDepth 100000 in
theorem C_M_toss (l : Launch) (hl0 : l.stackTraces = false) (G : GG) (a1 : Int32) (m0 : Mem) (v : Int32) (m' : Mem) (hF : F_M_toss a1 m0 = some (v, m')) : Ct l G mr0 N0 yX11_toss cX11_toss 2 (some .int) 4 [.ref (G.2.1 + 78), .int a1] m0 (some (.int v)) m' := by
  refine Ct_of hl0 (by decide) (Nat.le_of_ble_eq_true rfl) ?_
  intro p e s mid args below meth c ls C hrt hl hR
  have hx := C.1.1
  have hb := C.1.2.1
  have hl : lv_has ls 2 [(0, .ref (G.2.1 + 78)), (1, .int a1)] := hl
  unfold F_M_toss at hF
  refine lv_aload_n hx hb (dk DX11_toss 0 rfl) rfl (lv_at hl 0 rfl) ?_
  refine lv_iconst (v := (0 : Int32)) hx hb (dk DX11_toss 1 rfl) (by decide) ?_
  refine pX11_3 (x := (0 : Int32)) C hR ob78 (dk DX11_toss 2 rfl) (fun H locs hR => ?_)
  obtain ⟨m1, em1, hF⟩ := lt_ex hF
  have hR := Rp_at em1 hR
  refine lv_aload_n hx hb (dk DX11_toss 3 rfl) rfl (lv_at hl 0 rfl) ?_
  refine lv_iload_n hx hb (dk DX11_toss 4 rfl) rfl (lv_at hl 1 rfl) ?_
  obtain ⟨z4, m2, hz3, hF⟩ := bnd_ex hF
  refine r_callSi (As := [.int a1]) (rest := [.ref (G.2.1 + 78)]) C hR (C_M_noSide l hl0 G a1 m1 _ _ hz3) (by decide) (by decide) wX11_243 rfl rfl (Nat.le_of_ble_eq_true rfl) hl.1 ⟨Nat.zero_le _, Nat.zero_le _⟩ (dk DX11_toss 5 rfl) (fun H locs hR => ?_)
  refine lv_iconst (v := (1 : Int32)) hx hb (dk DX11_toss 6 rfl) (by decide) ?_
  obtain ⟨z7, m5, hz6, hF⟩ := bnd_ex hF
  refine r_callVi (As := [.int (b2i z4), .int (1 : Int32)]) (rest := []) C hR (C_M_throwsIf l hl0 G z4 (1 : Int32) m2 _ _ hz6) (by decide) (by decide) ob78 rfl wX11_227 rfl rfl (Nat.le_of_ble_eq_true rfl) hl.1 ⟨Nat.zero_le _, Nat.zero_le _⟩ (dk DX11_toss 7 rfl) (fun H locs hR => ?_)
  refine z_ifne (tgt := 37) hx hb (dk DX11_toss 8 rfl) (by decide) (fun c14 => ?_) (fun c14 => ?_)
  · have hF := if_t c14 hF
    refine lv_iconst (v := (0 : Int32)) hx hb (dk DX11_toss 19 rfl) (by decide) ?_
    cases hF
    exact r_iret (v := (0 : Int32)) C hrt hR (dk DX11_toss 20 rfl)
  · have hF := if_f c14 hF
    refine lv_aload_n hx hb (dk DX11_toss 9 rfl) rfl (lv_at hl 0 rfl) ?_
    refine lv_aload_n hx hb (dk DX11_toss 10 rfl) rfl (lv_at hl 0 rfl) ?_
    obtain ⟨x10, m8, hz9, hF⟩ := bnd_ex hF
    refine r_callVi (As := []) (rest := [.ref (G.2.1 + 78)]) C hR (C_M_firstSide l hl0 G m5 _ _ hz9) (by decide) (by decide) ob78 rfl wX11_265 rfl rfl (Nat.le_of_ble_eq_true rfl) hl.1 ⟨Nat.zero_le _, Nat.zero_le _⟩ (dk DX11_toss 11 rfl) (fun H locs hR => ?_)
    obtain ⟨k30_12, ek30_12, hF⟩ := lt_ex hF
    have J30 : ∀ (z12 : Bool) (m11 : Mem) (H : Heap) (locs : List Loc) (ls : Array Slot), lv_has ls 2 [(0, .ref (G.2.1 + 78)), (1, .int a1)] → Rp G mr0 N0 m11 s H locs → k30_12 z12 m11 = some (v, m') → W p l e (rmD 4) s mid args below meth c H locs 0 0 (MQ below (QR G mr0 N0 (some (.int v)) m') args s 0 0 (fun q => G.2.1 ≤ q)) (F0 mid 30 ls [.int (b2i z12), .ref (G.2.1 + 78)]) := by
      intro z12 m11 H locs ls hl hR hF
      rw [ek30_12] at hF
      refine lv_iconst (v := (2 : Int32)) hx hb (dk DX11_toss 16 rfl) (by decide) ?_
      obtain ⟨z15, m13, hz14, hF⟩ := bnd_ex hF
      refine r_callVi (As := [.int (b2i z12), .int (2 : Int32)]) (rest := []) C hR (C_M_throwsIf l hl0 G z12 (2 : Int32) m11 _ _ hz14) (by decide) (by decide) ob78 rfl wX11_227 rfl rfl (Nat.le_of_ble_eq_true rfl) hl.1 ⟨Nat.zero_le _, Nat.zero_le _⟩ (dk DX11_toss 17 rfl) (fun H locs hR => ?_)
      refine z_ifeq (tgt := 39) hx hb (dk DX11_toss 18 rfl) (by decide) (fun c34 => ?_) (fun c34 => ?_)
      · have hF := if_f c34 hF
        refine lv_aload_n hx hb (dk DX11_toss 21 rfl) rfl (lv_at hl 0 rfl) ?_
        obtain ⟨u18, m16, hz17, hF⟩ := bnd_ex hF
        refine r_callVv (As := []) (rest := []) C hR (C_M_remembers l hl0 G m13 _ _ hz17) (by decide) (by decide) ob78 rfl wX11_294 rfl rfl (Nat.le_of_ble_eq_true rfl) hl.1 ⟨Nat.zero_le _, Nat.zero_le _⟩ (dk DX11_toss 22 rfl) (fun H locs hR => ?_)
        refine lv_aload_n hx hb (dk DX11_toss 23 rfl) rfl (lv_at hl 0 rfl) ?_
        refine gX11_13 C hR ob78 rf78_1 (dk DX11_toss 24 rfl) ?_
        refine lv_bipush (v := (10 : Int32)) hx hb (dk DX11_toss 25 rfl) (by decide) ?_
        refine lv_iload_n hx hb (dk DX11_toss 26 rfl) rfl (lv_at hl 1 rfl) ?_
        refine r_iast C hR ob79 rfl (dk DX11_toss 27 rfl) (fun H locs hR => ?_)
        obtain ⟨m19, em19, hF⟩ := lt_ex hF
        have hR := Rp_at em19 hR
        refine lv_aload_n hx hb (dk DX11_toss 28 rfl) rfl (lv_at hl 0 rfl) ?_
        refine gX11_13 C hR ob78 rf78_1 (dk DX11_toss 29 rfl) ?_
        refine lv_bipush (v := (14 : Int32)) hx hb (dk DX11_toss 30 rfl) (by decide) ?_
        refine lv_iconst (v := (1 : Int32)) hx hb (dk DX11_toss 31 rfl) (by decide) ?_
        refine r_iast C hR ob79 rfl (dk DX11_toss 32 rfl) (fun H locs hR => ?_)
        obtain ⟨m20, em20, hF⟩ := lt_ex hF
        have hR := Rp_at em20 hR
        refine lv_aload_n hx hb (dk DX11_toss 33 rfl) rfl (lv_at hl 0 rfl) ?_
        refine lv_iconst (v := (0 : Int32)) hx hb (dk DX11_toss 34 rfl) (by decide) ?_
        refine lv_iconst (v := (0 : Int32)) hx hb (dk DX11_toss 35 rfl) (by decide) ?_
        refine lv_iload_n hx hb (dk DX11_toss 36 rfl) rfl (lv_at hl 1 rfl) ?_
        obtain ⟨x23, m21, hz22, hF⟩ := bnd_ex hF
        refine r_callVi (As := [.int (0 : Int32), .int (0 : Int32), .int a1]) (rest := []) C hR (C_M_levelOf l hl0 G (0 : Int32) (0 : Int32) a1 m20 _ _ hz22) (by decide) (by decide) ob78 rfl wX11_259 rfl rfl (Nat.le_of_ble_eq_true rfl) hl.1 ⟨Nat.zero_le _, Nat.zero_le _⟩ (dk DX11_toss 37 rfl) (fun H locs hR => ?_)
        cases hF
        exact r_iret (v := x23) C hrt hR (dk DX11_toss 38 rfl)
      · have hF := if_t c34 hF
        refine lv_iconst (v := (0 : Int32)) hx hb (dk DX11_toss 19 rfl) (by decide) ?_
        cases hF
        exact r_iret (v := (0 : Int32)) C hrt hR (dk DX11_toss 20 rfl)
    refine lv_if_lt (tgt := 29) hx hb (dk DX11_toss 12 rfl) (by decide) (fun c22 => ?_) (fun c22 => ?_)
    · have hF := if_t c22 hF
      refine lv_iconst (v := (0 : Int32)) hx hb (dk DX11_toss 15 rfl) (by decide) ?_
      exact J30 false m8 _ _ ls (lv_sub hl [0, 1] rfl) hR hF
    · have hF := if_f c22 hF
      refine lv_iconst (v := (1 : Int32)) hx hb (dk DX11_toss 13 rfl) (by decide) ?_
      refine lv_goto (tgt := 30) hx hb (dk DX11_toss 14 rfl) (by decide) ?_
      exact J30 true m8 _ _ ls (lv_sub hl [0, 1] rfl) hR hF
set_option maxHeartbeats 4000000 in
set_option maxRecDepth 100000 in
theorem C_M_turning (l : Launch) (hl0 : l.stackTraces = false) (G : GG) (a1 : Bool) (m0 : Mem) (v : Int32) (m' : Mem) (hF : F_M_turning a1 m0 = some (v, m')) : Ct l G mr0 N0 yX11_turning cX11_turning 8 (some .int) 11 [.ref (G.2.1 + 78), .int (b2i a1)] m0 (some (.int v)) m' := by
  refine Ct_of hl0 (by decide) (Nat.le_of_ble_eq_true rfl) ?_
  intro p e s mid args below meth c ls C hrt hl hR
  have hx := C.1.1
  have hb := C.1.2.1
  have hl : lv_has ls 8 [(0, .ref (G.2.1 + 78)), (1, .int (b2i a1))] := hl
  unfold F_M_turning at hF
  refine lv_aload_n hx hb (dk DX11_turning 0 rfl) rfl (lv_at hl 0 rfl) ?_
  refine lv_iconst (v := (0 : Int32)) hx hb (dk DX11_turning 1 rfl) (by decide) ?_
  refine pX11_3 (x := (0 : Int32)) C hR ob78 (dk DX11_turning 2 rfl) (fun H locs hR => ?_)
  obtain ⟨m1, em1, hF⟩ := lt_ex hF
  have hR := Rp_at em1 hR
  refine lv_aload_n hx hb (dk DX11_turning 3 rfl) rfl (lv_at hl 0 rfl) ?_
  refine lv_aload_n hx hb (dk DX11_turning 4 rfl) rfl (lv_at hl 0 rfl) ?_
  obtain ⟨z4, m2, hz3, hF⟩ := bnd_ex hF
  refine r_callVi (As := []) (rest := [.ref (G.2.1 + 78)]) C hR (C_M_isOn l hl0 G m1 _ _ hz3) (by decide) (by decide) ob78 rfl wX11_278 rfl rfl (Nat.le_of_ble_eq_true rfl) hl.1 ⟨Nat.zero_le _, Nat.zero_le _⟩ (dk DX11_turning 5 rfl) (fun H locs hR => ?_)
  obtain ⟨k18_6, ek18_6, hF⟩ := lt_ex hF
  have J18 : ∀ (z6 : Bool) (m5 : Mem) (H : Heap) (locs : List Loc) (ls : Array Slot), lv_has ls 8 [(0, .ref (G.2.1 + 78)), (1, .int (b2i a1))] → Rp G mr0 N0 m5 s H locs → k18_6 z6 m5 = some (v, m') → W p l e (rmD 11) s mid args below meth c H locs 0 0 (MQ below (QR G mr0 N0 (some (.int v)) m') args s 0 0 (fun q => G.2.1 ≤ q)) (F0 mid 18 ls [.int (b2i z6), .ref (G.2.1 + 78)]) := by
    intro z6 m5 H locs ls hl hR hF
    rw [ek18_6] at hF
    refine lv_iconst (v := (1 : Int32)) hx hb (dk DX11_turning 10 rfl) (by decide) ?_
    obtain ⟨z9, m7, hz8, hF⟩ := bnd_ex hF
    refine r_callVi (As := [.int (b2i z6), .int (1 : Int32)]) (rest := []) C hR (C_M_throwsIf l hl0 G z6 (1 : Int32) m5 _ _ hz8) (by decide) (by decide) ob78 rfl wX11_227 rfl rfl (Nat.le_of_ble_eq_true rfl) hl.1 ⟨Nat.zero_le _, Nat.zero_le _⟩ (dk DX11_turning 11 rfl) (fun H locs hR => ?_)
    refine z_ifeq (tgt := 27) hx hb (dk DX11_turning 12 rfl) (by decide) (fun c22 => ?_) (fun c22 => ?_)
    · have hF := if_f c22 hF
      refine lv_iconst (v := (-1 : Int32)) hx hb (dk DX11_turning 15 rfl) (by decide) ?_
      refine lv_istore_n (lv' := [(2, .int (-1 : Int32)), (0, .ref (G.2.1 + 78)), (1, .int (b2i a1))]) hx hb (dk DX11_turning 16 rfl) rfl hl (by decide) rfl (fun ls hl => ?_)
      refine lv_lconst (v := (0 : Int64)) hx hb (dk DX11_turning 17 rfl) (by decide) ?_
      refine lv_lstore_n (lv' := [(3, .long (0 : Int64)), (2, .int (-1 : Int32)), (0, .ref (G.2.1 + 78)), (1, .int (b2i a1))]) hx hb (dk DX11_turning 18 rfl) rfl hl (by decide) rfl (fun ls hl => ?_)
      refine lv_iconst (v := (0 : Int32)) hx hb (dk DX11_turning 19 rfl) (by decide) ?_
      refine lv_istore (lv' := [(5, .int (0 : Int32)), (3, .long (0 : Int64)), (2, .int (-1 : Int32)), (0, .ref (G.2.1 + 78)), (1, .int (b2i a1))]) hx hb (dk DX11_turning 20 rfl) hl (by decide) rfl (fun ls hl => ?_)
      have L34 : ∀ (nf : Nat) (x11 : Int32) (y12 : Int64) (x13 : Int32) (m10 : Mem) (H : Heap) (locs : List Loc) (ls : Array Slot), lv_has ls 8 [(0, .ref (G.2.1 + 78)), (1, .int (b2i a1)), (2, .int x11), (3, .long y12), (5, .int x13)] → Rp G mr0 N0 m10 s H locs → F_M_turning_L34 a1 nf x11 y12 x13 m10 = some (v, m') → W p l e (rmD 11) s mid args below meth c H locs 0 0 (MQ below (QR G mr0 N0 (some (.int v)) m') args s 0 0 (fun q => G.2.1 ≤ q)) (F0 mid 34 ls []) := by
        intro nf
        induction nf with
        | zero =>
          intro x11 y12 x13 m10 H locs ls hl hR hF
          rw [F_M_turning_L34] at hF
          cases hF
        | succ nf ih15 =>
          intro x11 y12 x13 m10 H locs ls hl hR hF
          rw [F_M_turning_L34] at hF
          refine lv_iload hx hb (dk DX11_turning 21 rfl) (lv_at hl 4 rfl) ?_
          refine lv_iconst (v := (4 : Int32)) hx hb (dk DX11_turning 22 rfl) (by decide) ?_
          refine lv_icmp_ge (tgt := 102) hx hb (dk DX11_turning 23 rfl) (by decide) (fun c37 => ?_) (fun c37 => ?_)
          · have hF := if_t c37 hF
            refine lv_iload_n hx hb (dk DX11_turning 57 rfl) rfl (lv_at hl 2 rfl) ?_
            cases hF
            exact r_iret (v := x11) C hrt hR (dk DX11_turning 58 rfl)
          · have hF := if_f c37 hF
            refine lv_aload_n hx hb (dk DX11_turning 24 rfl) rfl (lv_at hl 0 rfl) ?_
            refine lv_iload hx hb (dk DX11_turning 25 rfl) (lv_at hl 4 rfl) ?_
            obtain ⟨u18, m16, hz17, hF⟩ := bnd_ex hF
            refine r_callVv (As := [.int x13]) (rest := []) C hR (C_M_countsAfter l hl0 G x13 m10 _ _ hz17) (by decide) (by decide) ob78 rfl wX11_449 rfl rfl (Nat.le_of_ble_eq_true rfl) hl.1 ⟨Nat.zero_le _, Nat.zero_le _⟩ (dk DX11_turning 26 rfl) (fun H locs hR => ?_)
            refine lv_iload_n hx hb (dk DX11_turning 27 rfl) rfl (lv_at hl 1 rfl) ?_
            obtain ⟨k74_20, ek74_20, hF⟩ := lt_ex hF
            have J74 : ∀ (y20 : Int64) (m19 : Mem) (H : Heap) (locs : List Loc) (ls : Array Slot), lv_has ls 8 [(0, .ref (G.2.1 + 78)), (1, .int (b2i a1)), (2, .int x11), (3, .long y12), (5, .int x13)] → Rp G mr0 N0 m19 s H locs → k74_20 y20 m19 = some (v, m') → W p l e (rmD 11) s mid args below meth c H locs 0 0 (MQ below (QR G mr0 N0 (some (.int v)) m') args s 0 0 (fun q => G.2.1 ≤ q)) (F0 mid 74 ls [.long y20]) := by
              intro y20 m19 H locs ls hl hR hF
              rw [ek74_20] at hF
              refine lv_lstore (lv' := [(6, .long y20), (0, .ref (G.2.1 + 78)), (1, .int (b2i a1)), (2, .int x11), (3, .long y12), (5, .int x13)]) hx hb (dk DX11_turning 43 rfl) hl (by decide) rfl (fun ls hl => ?_)
              refine lv_iload_n hx hb (dk DX11_turning 44 rfl) rfl (lv_at hl 3 rfl) ?_
              obtain ⟨k96_23, ek96_23, hF⟩ := lt_ex hF
              have J96 : ∀ (x22 : Int32) (y23 : Int64) (m21 : Mem) (H : Heap) (locs : List Loc) (ls : Array Slot), lv_has ls 8 [(0, .ref (G.2.1 + 78)), (1, .int (b2i a1)), (2, .int x22), (3, .long y23), (5, .int x13)] → Rp G mr0 N0 m21 s H locs → k96_23 x22 y23 m21 = some (v, m') → W p l e (rmD 11) s mid args below meth c H locs 0 0 (MQ below (QR G mr0 N0 (some (.int v)) m') args s 0 0 (fun q => G.2.1 ≤ q)) (F0 mid 96 ls []) := by
                intro x22 y23 m21 H locs ls hl hR hF
                rw [ek96_23] at hF
                obtain ⟨x24, ex24, hF⟩ := lt_ex hF
                refine lv_iinc (v := x24) (lv' := [(5, .int x24), (0, .ref (G.2.1 + 78)), (1, .int (b2i a1)), (2, .int x22), (3, .long y23)]) hx hb (dk DX11_turning 55 rfl) hl (k := 4) rfl (by rw [ex24]; rfl) (by decide) rfl (fun ls hl => ?_)
                refine lv_goto (tgt := 34) hx hb (dk DX11_turning 56 rfl) (by decide) ?_
                exact ih15 x22 y23 x24 m21 _ _ ls (lv_sub hl [1, 2, 3, 4, 0] rfl) hR hF
              obtain ⟨k90_25, ek90_25, hF⟩ := lt_ex hF
              have J90 : ∀ (m25 : Mem) (H : Heap) (locs : List Loc) (ls : Array Slot), lv_has ls 8 [(0, .ref (G.2.1 + 78)), (1, .int (b2i a1)), (5, .int x13), (6, .long y20)] → Rp G mr0 N0 m25 s H locs → k90_25  m25 = some (v, m') → W p l e (rmD 11) s mid args below meth c H locs 0 0 (MQ below (QR G mr0 N0 (some (.int v)) m') args s 0 0 (fun q => G.2.1 ≤ q)) (F0 mid 90 ls []) := by
                intro  m25 H locs ls hl hR hF
                rw [ek90_25] at hF
                refine lv_iload hx hb (dk DX11_turning 51 rfl) (lv_at hl 2 rfl) ?_
                refine lv_istore_n (lv' := [(2, .int x13), (0, .ref (G.2.1 + 78)), (1, .int (b2i a1)), (5, .int x13), (6, .long y20)]) hx hb (dk DX11_turning 52 rfl) rfl hl (by decide) rfl (fun ls hl => ?_)
                refine lv_lload hx hb (dk DX11_turning 53 rfl) (lv_at hl 4 rfl) ?_
                refine lv_lstore_n (lv' := [(3, .long y20), (2, .int x13), (0, .ref (G.2.1 + 78)), (1, .int (b2i a1)), (5, .int x13), (6, .long y20)]) hx hb (dk DX11_turning 54 rfl) rfl hl (by decide) rfl (fun ls hl => ?_)
                exact J96 x13 y20 m25 _ _ ls (lv_sub hl [2, 3, 1, 0, 4] rfl) hR hF
              refine lv_if_lt (tgt := 90) hx hb (dk DX11_turning 45 rfl) (by decide) (fun c77 => ?_) (fun c77 => ?_)
              · have hF := if_t c77 hF
                exact J90 m19 _ _ ls (lv_sub hl [1, 2, 5, 0] rfl) hR hF
              · have hF := if_f c77 hF
                refine lv_lload hx hb (dk DX11_turning 46 rfl) (lv_at hl 0 rfl) ?_
                refine lv_lload_n hx hb (dk DX11_turning 47 rfl) rfl (lv_at hl 4 rfl) ?_
                refine l_ifgt (tgt := 90) hx hb (dk DX11_turning 48 rfl) (dk DX11_turning 49 rfl) (by decide) (fun c83 => ?_) (fun c83 => ?_)
                · have hF := if_t c83 hF
                  exact J90 m19 _ _ ls (lv_sub hl [1, 2, 5, 0] rfl) hR hF
                · have hF := if_f c83 hF
                  refine lv_goto (tgt := 96) hx hb (dk DX11_turning 50 rfl) (by decide) ?_
                  exact J96 x11 y12 m19 _ _ ls (lv_sub hl [1, 2, 3, 4, 5] rfl) hR hF
            refine z_ifeq (tgt := 64) hx hb (dk DX11_turning 28 rfl) (by decide) (fun c47 => ?_) (fun c47 => ?_)
            · have hF := if_f c47 hF
              refine lv_aload_n hx hb (dk DX11_turning 37 rfl) rfl (lv_at hl 0 rfl) ?_
              refine lv_aload_n hx hb (dk DX11_turning 38 rfl) rfl (lv_at hl 0 rfl) ?_
              obtain ⟨x28, m26, hz27, hF⟩ := bnd_ex hF
              refine r_callVi (As := []) (rest := [.ref (G.2.1 + 78)]) C hR (C_M_played l hl0 G m16 _ _ hz27) (by decide) (by decide) ob78 rfl wX11_288 rfl rfl (Nat.le_of_ble_eq_true rfl) hl.1 ⟨Nat.zero_le _, Nat.zero_le _⟩ (dk DX11_turning 39 rfl) (fun H locs hR => ?_)
              refine lv_iconst (v := (1 : Int32)) hx hb (dk DX11_turning 40 rfl) (by decide) ?_
              refine lv_iadd hx hb (dk DX11_turning 41 rfl) ?_
              obtain ⟨y31, m29, hz30, hF⟩ := bnd_ex hF
              refine r_callVl (As := [.int (x28 + (1 : Int32))]) (rest := []) C hR (C_M_got l hl0 G (x28 + (1 : Int32)) m26 _ _ hz30) (by decide) (by decide) ob78 rfl wX11_382 rfl rfl (Nat.le_of_ble_eq_true rfl) hl.1 ⟨Nat.zero_le _, Nat.zero_le _⟩ (dk DX11_turning 42 rfl) (fun H locs hR => ?_)
              exact J74 y31 m29 _ _ ls (lv_sub hl [0, 1, 2, 3, 4] rfl) hR hF
            · have hF := if_t c47 hF
              refine lv_aload_n hx hb (dk DX11_turning 29 rfl) rfl (lv_at hl 0 rfl) ?_
              refine lv_aload_n hx hb (dk DX11_turning 30 rfl) rfl (lv_at hl 0 rfl) ?_
              obtain ⟨x34, m32, hz33, hF⟩ := bnd_ex hF
              refine r_callVi (As := []) (rest := [.ref (G.2.1 + 78)]) C hR (C_M_played l hl0 G m16 _ _ hz33) (by decide) (by decide) ob78 rfl wX11_288 rfl rfl (Nat.le_of_ble_eq_true rfl) hl.1 ⟨Nat.zero_le _, Nat.zero_le _⟩ (dk DX11_turning 31 rfl) (fun H locs hR => ?_)
              refine lv_iconst (v := (1 : Int32)) hx hb (dk DX11_turning 32 rfl) (by decide) ?_
              refine lv_iadd hx hb (dk DX11_turning 33 rfl) ?_
              obtain ⟨y37, m35, hz36, hF⟩ := bnd_ex hF
              refine r_callVl (As := [.int (x34 + (1 : Int32))]) (rest := []) C hR (C_M_got l hl0 G (x34 + (1 : Int32)) m32 _ _ hz36) (by decide) (by decide) ob78 rfl wX11_382 rfl rfl (Nat.le_of_ble_eq_true rfl) hl.1 ⟨Nat.zero_le _, Nat.zero_le _⟩ (dk DX11_turning 34 rfl) (fun H locs hR => ?_)
              refine lv_lneg hx hb (dk DX11_turning 35 rfl) ?_
              refine lv_goto (tgt := 74) hx hb (dk DX11_turning 36 rfl) (by decide) ?_
              exact J74 (-y37) m35 _ _ ls (lv_sub hl [0, 1, 2, 3, 4] rfl) hR hF
      exact L34 1000000 (-1 : Int32) (0 : Int64) (0 : Int32) m7 _ _ ls (lv_sub hl [3, 4, 2, 1, 0] rfl) hR hF
    · have hF := if_t c22 hF
      refine lv_iconst (v := (0 : Int32)) hx hb (dk DX11_turning 13 rfl) (by decide) ?_
      cases hF
      exact r_iret (v := (0 : Int32)) C hrt hR (dk DX11_turning 14 rfl)
  refine z_ifne (tgt := 17) hx hb (dk DX11_turning 6 rfl) (by decide) (fun c10 => ?_) (fun c10 => ?_)
  · have hF := if_t c10 hF
    refine lv_iconst (v := (0 : Int32)) hx hb (dk DX11_turning 9 rfl) (by decide) ?_
    exact J18 false m2 _ _ ls (lv_sub hl [0, 1] rfl) hR hF
  · have hF := if_f c10 hF
    refine lv_iconst (v := (1 : Int32)) hx hb (dk DX11_turning 7 rfl) (by decide) ?_
    refine lv_goto (tgt := 18) hx hb (dk DX11_turning 8 rfl) (by decide) ?_
    exact J18 true m2 _ _ ls (lv_sub hl [0, 1] rfl) hR hF
set_option maxHeartbeats 4000000 in
set_option maxRecDepth 100000 in
theorem C_M_turnover (l : Launch) (hl0 : l.stackTraces = false) (G : GG) (a1 : Int32) (a2 : Int32) (m0 : Mem) (v : Int32) (m' : Mem) (hF : F_M_turnover a1 a2 m0 = some (v, m')) : Ct l G mr0 N0 yX11_turnover cX11_turnover 4 (some .int) 11 [.ref (G.2.1 + 78), .int a1, .int a2] m0 (some (.int v)) m' := by
  refine Ct_of hl0 (by decide) (Nat.le_of_ble_eq_true rfl) ?_
  intro p e s mid args below meth c ls C hrt hl hR
  have hx := C.1.1
  have hb := C.1.2.1
  have hl : lv_has ls 4 [(0, .ref (G.2.1 + 78)), (1, .int a1), (2, .int a2)] := hl
  unfold F_M_turnover at hF
  refine lv_aload_n hx hb (dk DX11_turnover 0 rfl) rfl (lv_at hl 0 rfl) ?_
  refine lv_iconst (v := (0 : Int32)) hx hb (dk DX11_turnover 1 rfl) (by decide) ?_
  refine pX11_3 (x := (0 : Int32)) C hR ob78 (dk DX11_turnover 2 rfl) (fun H locs hR => ?_)
  obtain ⟨m1, em1, hF⟩ := lt_ex hF
  have hR := Rp_at em1 hR
  refine lv_aload_n hx hb (dk DX11_turnover 3 rfl) rfl (lv_at hl 0 rfl) ?_
  refine lv_aload_n hx hb (dk DX11_turnover 4 rfl) rfl (lv_at hl 0 rfl) ?_
  refine lv_iload_n hx hb (dk DX11_turnover 5 rfl) rfl (lv_at hl 1 rfl) ?_
  obtain ⟨z4, m2, hz3, hF⟩ := bnd_ex hF
  refine r_callVi (As := [.int a1]) (rest := [.ref (G.2.1 + 78)]) C hR (C_M_noPlayed l hl0 G a1 m1 _ _ hz3) (by decide) (by decide) ob78 rfl wX11_452 rfl rfl (Nat.le_of_ble_eq_true rfl) hl.1 ⟨Nat.zero_le _, Nat.zero_le _⟩ (dk DX11_turnover 6 rfl) (fun H locs hR => ?_)
  refine lv_iconst (v := (1 : Int32)) hx hb (dk DX11_turnover 7 rfl) (by decide) ?_
  obtain ⟨z7, m5, hz6, hF⟩ := bnd_ex hF
  refine r_callVi (As := [.int (b2i z4), .int (1 : Int32)]) (rest := []) C hR (C_M_throwsIf l hl0 G z4 (1 : Int32) m2 _ _ hz6) (by decide) (by decide) ob78 rfl wX11_227 rfl rfl (Nat.le_of_ble_eq_true rfl) hl.1 ⟨Nat.zero_le _, Nat.zero_le _⟩ (dk DX11_turnover 8 rfl) (fun H locs hR => ?_)
  refine z_ifne (tgt := 32) hx hb (dk DX11_turnover 9 rfl) (by decide) (fun c15 => ?_) (fun c15 => ?_)
  · have hF := if_t c15 hF
    refine lv_iconst (v := (0 : Int32)) hx hb (dk DX11_turnover 18 rfl) (by decide) ?_
    cases hF
    exact r_iret (v := (0 : Int32)) C hrt hR (dk DX11_turnover 19 rfl)
  · have hF := if_f c15 hF
    refine lv_aload_n hx hb (dk DX11_turnover 10 rfl) rfl (lv_at hl 0 rfl) ?_
    refine lv_aload_n hx hb (dk DX11_turnover 11 rfl) rfl (lv_at hl 0 rfl) ?_
    refine lv_iconst (v := (0 : Int32)) hx hb (dk DX11_turnover 12 rfl) (by decide) ?_
    refine lv_iload_n hx hb (dk DX11_turnover 13 rfl) rfl (lv_at hl 2 rfl) ?_
    obtain ⟨z10, m8, hz9, hF⟩ := bnd_ex hF
    refine r_callVi (As := [.int (0 : Int32), .int a2]) (rest := [.ref (G.2.1 + 78)]) C hR (C_M_noState l hl0 G (0 : Int32) a2 m5 _ _ hz9) (by decide) (by decide) ob78 rfl wX11_455 rfl rfl (Nat.le_of_ble_eq_true rfl) hl.1 ⟨Nat.zero_le _, Nat.zero_le _⟩ (dk DX11_turnover 14 rfl) (fun H locs hR => ?_)
    refine lv_iconst (v := (2 : Int32)) hx hb (dk DX11_turnover 15 rfl) (by decide) ?_
    obtain ⟨z13, m11, hz12, hF⟩ := bnd_ex hF
    refine r_callVi (As := [.int (b2i z10), .int (2 : Int32)]) (rest := []) C hR (C_M_throwsIf l hl0 G z10 (2 : Int32) m8 _ _ hz12) (by decide) (by decide) ob78 rfl wX11_227 rfl rfl (Nat.le_of_ble_eq_true rfl) hl.1 ⟨Nat.zero_le _, Nat.zero_le _⟩ (dk DX11_turnover 16 rfl) (fun H locs hR => ?_)
    refine z_ifeq (tgt := 34) hx hb (dk DX11_turnover 17 rfl) (by decide) (fun c29 => ?_) (fun c29 => ?_)
    · have hF := if_f c29 hF
      refine lv_iload_n hx hb (dk DX11_turnover 20 rfl) rfl (lv_at hl 1 rfl) ?_
      refine lv_aload_n hx hb (dk DX11_turnover 21 rfl) rfl (lv_at hl 0 rfl) ?_
      obtain ⟨x16, m14, hz15, hF⟩ := bnd_ex hF
      refine r_callVi (As := []) (rest := [.int a1]) C hR (C_M_size l hl0 G m11 _ _ hz15) (by decide) (by decide) ob78 rfl wX11_63 rfl rfl (Nat.le_of_ble_eq_true rfl) hl.1 ⟨Nat.zero_le _, Nat.zero_le _⟩ (dk DX11_turnover 22 rfl) (fun H locs hR => ?_)
      refine lv_icmp_ne (tgt := 45) hx hb (dk DX11_turnover 23 rfl) (by decide) (fun c39 => ?_) (fun c39 => ?_)
      · have hF := if_f c39 hF
        refine lv_aload_n hx hb (dk DX11_turnover 26 rfl) rfl (lv_at hl 0 rfl) ?_
        refine lv_iload_n hx hb (dk DX11_turnover 27 rfl) rfl (lv_at hl 1 rfl) ?_
        refine lv_bipush (v := (81 : Int32)) hx hb (dk DX11_turnover 28 rfl) (by decide) ?_
        obtain ⟨u19, m17, hz18, hF⟩ := bnd_ex hF
        refine r_callVv (As := [.int a1, .int (81 : Int32)]) (rest := []) C hR (C_M_countsFrom l hl0 G a1 (81 : Int32) m14 _ _ hz18) (by decide) (by decide) ob78 rfl wX11_458 rfl rfl (Nat.le_of_ble_eq_true rfl) hl.1 ⟨Nat.zero_le _, Nat.zero_le _⟩ (dk DX11_turnover 29 rfl) (fun H locs hR => ?_)
        refine lv_bipush (v := (81 : Int32)) hx hb (dk DX11_turnover 30 rfl) (by decide) ?_
        refine lv_istore_n (lv' := [(3, .int (81 : Int32)), (0, .ref (G.2.1 + 78)), (1, .int a1), (2, .int a2)]) hx hb (dk DX11_turnover 31 rfl) rfl hl (by decide) rfl (fun ls hl => ?_)
        have L55 : ∀ (nf : Nat) (x21 : Int32) (m20 : Mem) (H : Heap) (locs : List Loc) (ls : Array Slot), lv_has ls 4 [(0, .ref (G.2.1 + 78)), (1, .int a1), (2, .int a2), (3, .int x21)] → Rp G mr0 N0 m20 s H locs → F_M_turnover_L55 a1 a2 nf x21 m20 = some (v, m') → W p l e (rmD 11) s mid args below meth c H locs 0 0 (MQ below (QR G mr0 N0 (some (.int v)) m') args s 0 0 (fun q => G.2.1 ≤ q)) (F0 mid 55 ls []) := by
          intro nf
          induction nf with
          | zero =>
            intro x21 m20 H locs ls hl hR hF
            rw [F_M_turnover_L55] at hF
            cases hF
          | succ nf ih23 =>
            intro x21 m20 H locs ls hl hR hF
            rw [F_M_turnover_L55] at hF
            refine lv_iload_n hx hb (dk DX11_turnover 32 rfl) rfl (lv_at hl 3 rfl) ?_
            refine lv_if_lt (tgt := 77) hx hb (dk DX11_turnover 33 rfl) (by decide) (fun c56 => ?_) (fun c56 => ?_)
            · have hF := if_t c56 hF
              refine lv_iload_n hx hb (dk DX11_turnover 44 rfl) rfl (lv_at hl 3 rfl) ?_
              cases hF
              exact r_iret (v := x21) C hrt hR (dk DX11_turnover 45 rfl)
            · have hF := if_f c56 hF
              refine lv_aload_n hx hb (dk DX11_turnover 34 rfl) rfl (lv_at hl 0 rfl) ?_
              refine lv_iload_n hx hb (dk DX11_turnover 35 rfl) rfl (lv_at hl 1 rfl) ?_
              refine lv_iconst (v := (4 : Int32)) hx hb (dk DX11_turnover 36 rfl) (by decide) ?_
              refine lv_iload_n hx hb (dk DX11_turnover 37 rfl) rfl (lv_at hl 2 rfl) ?_
              refine lv_iload_n hx hb (dk DX11_turnover 38 rfl) rfl (lv_at hl 3 rfl) ?_
              refine lv_ineg hx hb (dk DX11_turnover 39 rfl) ?_
              obtain ⟨z26, m24, hz25, hF⟩ := bnd_ex hF
              refine r_callVi (As := [.int a1, .int (4 : Int32), .int a2, .int (-x21)]) (rest := []) C hR (C_M_isChosen l hl0 G a1 (4 : Int32) a2 (-x21) m20 _ _ hz25) (by decide) (by decide) ob78 rfl wX11_461 rfl rfl (Nat.le_of_ble_eq_true rfl) hl.1 ⟨Nat.zero_le _, Nat.zero_le _⟩ (dk DX11_turnover 40 rfl) (fun H locs hR => ?_)
              refine z_ifeq (tgt := 77) hx hb (dk DX11_turnover 41 rfl) (by decide) (fun c68 => ?_) (fun c68 => ?_)
              · have hF := if_f c68 hF
                refine lv_iload_n hx hb (dk DX11_turnover 44 rfl) rfl (lv_at hl 3 rfl) ?_
                cases hF
                exact r_iret (v := x21) C hrt hR (dk DX11_turnover 45 rfl)
              · have hF := if_t c68 hF
                obtain ⟨x27, ex27, hF⟩ := lt_ex hF
                refine lv_iinc (v := x27) (lv' := [(3, .int x27), (0, .ref (G.2.1 + 78)), (1, .int a1), (2, .int a2)]) hx hb (dk DX11_turnover 42 rfl) hl (k := 3) rfl (by rw [ex27]; rfl) (by decide) rfl (fun ls hl => ?_)
                refine lv_goto (tgt := 55) hx hb (dk DX11_turnover 43 rfl) (by decide) ?_
                exact ih23 x27 m24 _ _ ls (lv_sub hl [1, 2, 3, 0] rfl) hR hF
        exact L55 1000000 (81 : Int32) m17 _ _ ls (lv_sub hl [1, 2, 3, 0] rfl) hR hF
      · have hF := if_t c39 hF
        refine lv_bipush (v := (81 : Int32)) hx hb (dk DX11_turnover 24 rfl) (by decide) ?_
        cases hF
        exact r_iret (v := (81 : Int32)) C hrt hR (dk DX11_turnover 25 rfl)
    · have hF := if_t c29 hF
      refine lv_iconst (v := (0 : Int32)) hx hb (dk DX11_turnover 18 rfl) (by decide) ?_
      cases hF
      exact r_iret (v := (0 : Int32)) C hrt hR (dk DX11_turnover 19 rfl)
set_option maxHeartbeats 4000000 in
set_option maxRecDepth 100000 in
theorem C_M_undo (l : Launch) (hl0 : l.stackTraces = false) (G : GG) (m0 : Mem) (v : Bool) (m' : Mem) (hF : F_M_undo m0 = some (v, m')) : Ct l G mr0 N0 yX11_undo cX11_undo 2 (some .boolean) 1 [.ref (G.2.1 + 78)] m0 (some (.int (b2i v))) m' := by
  refine Ct_of hl0 (by decide) (Nat.le_of_ble_eq_true rfl) ?_
  intro p e s mid args below meth c ls C hrt hl hR
  have hx := C.1.1
  have hb := C.1.2.1
  have hl : lv_has ls 2 [(0, .ref (G.2.1 + 78))] := hl
  unfold F_M_undo at hF
  refine lv_aload_n hx hb (dk DX11_undo 0 rfl) rfl (lv_at hl 0 rfl) ?_
  refine lv_iconst (v := (0 : Int32)) hx hb (dk DX11_undo 1 rfl) (by decide) ?_
  refine pX11_3 (x := (0 : Int32)) C hR ob78 (dk DX11_undo 2 rfl) (fun H locs hR => ?_)
  obtain ⟨m1, em1, hF⟩ := lt_ex hF
  have hR := Rp_at em1 hR
  refine lv_aload_n hx hb (dk DX11_undo 3 rfl) rfl (lv_at hl 0 rfl) ?_
  refine gX11_60 C hR ob78 (dk DX11_undo 4 rfl) ?_
  refine lv_if_ne (tgt := 14) hx hb (dk DX11_undo 5 rfl) (by decide) (fun c9 => ?_) (fun c9 => ?_)
  · have hF := if_f c9 hF
    refine lv_aload_n hx hb (dk DX11_undo 8 rfl) rfl (lv_at hl 0 rfl) ?_
    refine lv_dup hx hb (dk DX11_undo 9 rfl) rfl ?_
    refine gX11_60 C hR ob78 (dk DX11_undo 10 rfl) ?_
    refine lv_iconst (v := (1 : Int32)) hx hb (dk DX11_undo 11 rfl) (by decide) ?_
    refine lv_isub hx hb (dk DX11_undo 12 rfl) ?_
    refine pX11_60 (x := (gI m1 78 6) - (1 : Int32)) C hR ob78 (dk DX11_undo 13 rfl) (fun H locs hR => ?_)
    obtain ⟨m2, em2, hF⟩ := lt_ex hF
    have hR := Rp_at em2 hR
    refine lv_iconst (v := (0 : Int32)) hx hb (dk DX11_undo 14 rfl) (by decide) ?_
    refine lv_istore_n (lv' := [(1, .int (0 : Int32)), (0, .ref (G.2.1 + 78))]) hx hb (dk DX11_undo 15 rfl) rfl hl (by decide) rfl (fun ls hl => ?_)
    have L26 : ∀ (nf : Nat) (x4 : Int32) (m3 : Mem) (H : Heap) (locs : List Loc) (ls : Array Slot), lv_has ls 2 [(0, .ref (G.2.1 + 78)), (1, .int x4)] → Rp G mr0 N0 m3 s H locs → F_M_undo_L26 nf x4 m3 = some (v, m') → W p l e (rmD 1) s mid args below meth c H locs 0 0 (MQ below (QR G mr0 N0 (some (.int (b2i v))) m') args s 0 0 (fun q => G.2.1 ≤ q)) (F0 mid 26 ls []) := by
      intro nf
      induction nf with
      | zero =>
        intro x4 m3 H locs ls hl hR hF
        rw [F_M_undo_L26] at hF
        cases hF
      | succ nf ih6 =>
        intro x4 m3 H locs ls hl hR hF
        rw [F_M_undo_L26] at hF
        refine lv_iload_n hx hb (dk DX11_undo 16 rfl) rfl (lv_at hl 1 rfl) ?_
        refine lv_sipush (v := (298 : Int32)) hx hb (dk DX11_undo 17 rfl) (by decide) ?_
        refine lv_icmp_ge (tgt := 60) hx hb (dk DX11_undo 18 rfl) (by decide) (fun c30 => ?_) (fun c30 => ?_)
        · have hF := if_t c30 hF
          refine lv_iconst (v := (1 : Int32)) hx hb (dk DX11_undo 34 rfl) (by decide) ?_
          cases hF
          exact r_zret (v := true) C hrt hR (dk DX11_undo 35 rfl)
        · have hF := if_f c30 hF
          refine lv_aload_n hx hb (dk DX11_undo 19 rfl) rfl (lv_at hl 0 rfl) ?_
          refine gX11_13 C hR ob78 rf78_1 (dk DX11_undo 20 rfl) ?_
          refine lv_iload_n hx hb (dk DX11_undo 21 rfl) rfl (lv_at hl 1 rfl) ?_
          refine lv_aload_n hx hb (dk DX11_undo 22 rfl) rfl (lv_at hl 0 rfl) ?_
          refine gX11_23 C hR ob78 rf78_4 (dk DX11_undo 23 rfl) ?_
          refine lv_sipush (v := (298 : Int32)) hx hb (dk DX11_undo 24 rfl) (by decide) ?_
          refine lv_aload_n hx hb (dk DX11_undo 25 rfl) rfl (lv_at hl 0 rfl) ?_
          refine gX11_60 C hR ob78 (dk DX11_undo 26 rfl) ?_
          refine lv_imul hx hb (dk DX11_undo 27 rfl) ?_
          refine lv_iload_n hx hb (dk DX11_undo 28 rfl) rfl (lv_at hl 1 rfl) ?_
          refine lv_iadd hx hb (dk DX11_undo 29 rfl) ?_
          obtain ⟨h7, hF⟩ := ckB_ex hF
          refine r_iald C hR ob82 h7 (dk DX11_undo 30 rfl) ?_
          refine lv_topi (fun x8 ex8 => ?_)
          have hF := lt_at ex8 hF
          obtain ⟨h10, hF⟩ := ckB_ex hF
          refine r_iast C hR ob79 h10 (dk DX11_undo 31 rfl) (fun H locs hR => ?_)
          obtain ⟨m9, em9, hF⟩ := lt_ex hF
          have hR := Rp_at em9 hR
          obtain ⟨x11, ex11, hF⟩ := lt_ex hF
          refine lv_iinc (v := x11) (lv' := [(1, .int x11), (0, .ref (G.2.1 + 78))]) hx hb (dk DX11_undo 32 rfl) hl (k := 1) rfl (by rw [ex11]; rfl) (by decide) rfl (fun ls hl => ?_)
          refine lv_goto (tgt := 26) hx hb (dk DX11_undo 33 rfl) (by decide) ?_
          exact ih6 x11 m9 _ _ ls (lv_sub hl [1, 0] rfl) hR hF
    exact L26 1000000 (0 : Int32) m2 _ _ ls (lv_sub hl [1, 0] rfl) hR hF
  · have hF := if_t c9 hF
    refine lv_iconst (v := (0 : Int32)) hx hb (dk DX11_undo 6 rfl) (by decide) ?_
    cases hF
    exact r_zret (v := false) C hrt hR (dk DX11_undo 7 rfl)
set_option maxHeartbeats 4000000 in
set_option maxRecDepth 100000 in
theorem C_M_well (l : Launch) (hl0 : l.stackTraces = false) (G : GG) (m0 : Mem) (v : Int32) (m' : Mem) (hF : F_M_well m0 = some (v, m')) : Ct l G mr0 N0 yX11_well cX11_well 5 (some .int) 11 [.ref (G.2.1 + 78)] m0 (some (.int v)) m' := by
  refine Ct_of hl0 (by decide) (Nat.le_of_ble_eq_true rfl) ?_
  intro p e s mid args below meth c ls C hrt hl hR
  have hx := C.1.1
  have hb := C.1.2.1
  have hl : lv_has ls 5 [(0, .ref (G.2.1 + 78))] := hl
  unfold F_M_well at hF
  refine lv_aload_n hx hb (dk DX11_well 0 rfl) rfl (lv_at hl 0 rfl) ?_
  refine lv_iconst (v := (0 : Int32)) hx hb (dk DX11_well 1 rfl) (by decide) ?_
  refine pX11_3 (x := (0 : Int32)) C hR ob78 (dk DX11_well 2 rfl) (fun H locs hR => ?_)
  obtain ⟨m1, em1, hF⟩ := lt_ex hF
  have hR := Rp_at em1 hR
  refine lv_iconst (v := (0 : Int32)) hx hb (dk DX11_well 3 rfl) (by decide) ?_
  refine lv_istore_n (lv' := [(1, .int (0 : Int32)), (0, .ref (G.2.1 + 78))]) hx hb (dk DX11_well 4 rfl) rfl hl (by decide) rfl (fun ls hl => ?_)
  obtain ⟨k37_2, ek37_2, hF⟩ := lt_ex hF
  have J37 : ∀ (m2 : Mem) (H : Heap) (locs : List Loc) (ls : Array Slot), lv_has ls 5 [(0, .ref (G.2.1 + 78))] → Rp G mr0 N0 m2 s H locs → k37_2  m2 = some (v, m') → W p l e (rmD 11) s mid args below meth c H locs 0 0 (MQ below (QR G mr0 N0 (some (.int v)) m') args s 0 0 (fun q => G.2.1 ≤ q)) (F0 mid 37 ls []) := by
    intro  m2 H locs ls hl hR hF
    rw [ek37_2] at hF
    refine lv_iconst (v := (0 : Int32)) hx hb (dk DX11_well 23 rfl) (by decide) ?_
    refine lv_istore_n (lv' := [(1, .int (0 : Int32)), (0, .ref (G.2.1 + 78))]) hx hb (dk DX11_well 24 rfl) rfl hl (by decide) rfl (fun ls hl => ?_)
    refine lv_iconst (v := (0 : Int32)) hx hb (dk DX11_well 25 rfl) (by decide) ?_
    refine lv_istore_n (lv' := [(2, .int (0 : Int32)), (1, .int (0 : Int32)), (0, .ref (G.2.1 + 78))]) hx hb (dk DX11_well 26 rfl) rfl hl (by decide) rfl (fun ls hl => ?_)
    have L41 : ∀ (nf : Nat) (x4 : Int32) (x5 : Int32) (m3 : Mem) (H : Heap) (locs : List Loc) (ls : Array Slot), lv_has ls 5 [(0, .ref (G.2.1 + 78)), (1, .int x4), (2, .int x5)] → Rp G mr0 N0 m3 s H locs → F_M_well_L41 nf x4 x5 m3 = some (v, m') → W p l e (rmD 11) s mid args below meth c H locs 0 0 (MQ below (QR G mr0 N0 (some (.int v)) m') args s 0 0 (fun q => G.2.1 ≤ q)) (F0 mid 41 ls []) := by
      intro nf
      induction nf with
      | zero =>
        intro x4 x5 m3 H locs ls hl hR hF
        rw [F_M_well_L41] at hF
        cases hF
      | succ nf ih7 =>
        intro x4 x5 m3 H locs ls hl hR hF
        rw [F_M_well_L41] at hF
        refine lv_iload_n hx hb (dk DX11_well 27 rfl) rfl (lv_at hl 2 rfl) ?_
        refine lv_aload_n hx hb (dk DX11_well 28 rfl) rfl (lv_at hl 0 rfl) ?_
        refine gX11_13 C hR ob78 rf78_1 (dk DX11_well 29 rfl) ?_
        refine lv_iconst (v := (5 : Int32)) hx hb (dk DX11_well 30 rfl) (by decide) ?_
        refine r_iald C hR ob79 rfl (dk DX11_well 31 rfl) ?_
        refine lv_icmp_ge (tgt := 117) hx hb (dk DX11_well 32 rfl) (by decide) (fun c48 => ?_) (fun c48 => ?_)
        · have hF := if_t c48 hF
          refine lv_iload_n hx hb (dk DX11_well 73 rfl) rfl (lv_at hl 1 rfl) ?_
          cases hF
          exact r_iret (v := x4) C hrt hR (dk DX11_well 74 rfl)
        · have hF := if_f c48 hF
          refine lv_aload_n hx hb (dk DX11_well 33 rfl) rfl (lv_at hl 0 rfl) ?_
          refine gX11_49 C hR ob78 rf78_25 (dk DX11_well 34 rfl) ?_
          refine lv_aload_n hx hb (dk DX11_well 35 rfl) rfl (lv_at hl 0 rfl) ?_
          refine lv_iload_n hx hb (dk DX11_well 36 rfl) rfl (lv_at hl 2 rfl) ?_
          refine lv_iconst (v := (0 : Int32)) hx hb (dk DX11_well 37 rfl) (by decide) ?_
          obtain ⟨x10, m8, hz9, hF⟩ := bnd_ex hF
          refine r_callVi (As := [.int x5, .int (0 : Int32)]) (rest := [.ref (G.2.1 + 89)]) C hR (C_M_ofBook l hl0 G x5 (0 : Int32) m3 _ _ hz9) (by decide) (by decide) ob78 rfl wX11_446 rfl rfl (Nat.le_of_ble_eq_true rfl) hl.1 ⟨Nat.zero_le _, Nat.zero_le _⟩ (dk DX11_well 38 rfl) (fun H locs hR => ?_)
          obtain ⟨h11, hF⟩ := ckB_ex hF
          refine r_lald C hR ob89 h11 (dk DX11_well 39 rfl) ?_
          refine lv_topl (fun y12 ey12 => ?_)
          have hF := lt_at ey12 hF
          refine lv_lstore_n (lv' := [(3, .long y12), (0, .ref (G.2.1 + 78)), (1, .int x4), (2, .int x5)]) hx hb (dk DX11_well 40 rfl) rfl hl (by decide) rfl (fun ls hl => ?_)
          refine lv_iload_n hx hb (dk DX11_well 41 rfl) rfl (lv_at hl 2 rfl) ?_
          refine lv_lload_n hx hb (dk DX11_well 42 rfl) rfl (lv_at hl 0 rfl) ?_
          refine lv_lconst (v := (0 : Int64)) hx hb (dk DX11_well 43 rfl) (by decide) ?_
          obtain ⟨k109_14, ek109_14, hF⟩ := lt_ex hF
          have J109 : ∀ (z14 : Bool) (m13 : Mem) (H : Heap) (locs : List Loc) (ls : Array Slot), lv_has ls 5 [(0, .ref (G.2.1 + 78)), (2, .int x5)] → Rp G mr0 N0 m13 s H locs → k109_14 z14 m13 = some (v, m') → W p l e (rmD 11) s mid args below meth c H locs 0 0 (MQ below (QR G mr0 N0 (some (.int v)) m') args s 0 0 (fun q => G.2.1 ≤ q)) (F0 mid 109 ls [.int (b2i z14), .int x4]) := by
            intro z14 m13 H locs ls hl hR hF
            rw [ek109_14] at hF
            refine lv_iadd hx hb (dk DX11_well 69 rfl) ?_
            refine lv_topi (fun x15 ex15 => ?_)
            have hF := lt_at ex15 hF
            refine lv_istore_n (lv' := [(1, .int x15), (0, .ref (G.2.1 + 78)), (2, .int x5)]) hx hb (dk DX11_well 70 rfl) rfl hl (by decide) rfl (fun ls hl => ?_)
            obtain ⟨x16, ex16, hF⟩ := lt_ex hF
            refine lv_iinc (v := x16) (lv' := [(2, .int x16), (1, .int x15), (0, .ref (G.2.1 + 78))]) hx hb (dk DX11_well 71 rfl) hl (k := 2) rfl (by rw [ex16]; rfl) (by decide) rfl (fun ls hl => ?_)
            refine lv_goto (tgt := 41) hx hb (dk DX11_well 72 rfl) (by decide) ?_
            exact ih7 x15 x16 m13 _ _ ls (lv_sub hl [2, 1, 0] rfl) hR hF
          obtain ⟨k104_17, ek104_17, hF⟩ := lt_ex hF
          have J104 : ∀ (m17 : Mem) (H : Heap) (locs : List Loc) (ls : Array Slot), lv_has ls 5 [(0, .ref (G.2.1 + 78)), (2, .int x5)] → Rp G mr0 N0 m17 s H locs → k104_17  m17 = some (v, m') → W p l e (rmD 11) s mid args below meth c H locs 0 0 (MQ below (QR G mr0 N0 (some (.int v)) m') args s 0 0 (fun q => G.2.1 ≤ q)) (F0 mid 104 ls [.int x4]) := by
            intro  m17 H locs ls hl hR hF
            rw [ek104_17] at hF
            refine lv_iconst (v := (1 : Int32)) hx hb (dk DX11_well 66 rfl) (by decide) ?_
            refine lv_goto (tgt := 109) hx hb (dk DX11_well 67 rfl) (by decide) ?_
            exact J109 true m17 _ _ ls (lv_sub hl [0, 1] rfl) hR hF
          refine l_ifeq (tgt := 104) hx hb (dk DX11_well 44 rfl) (dk DX11_well 45 rfl) (by decide) (fun c66 => ?_) (fun c66 => ?_)
          · have hF := if_t c66 hF
            exact J104 m8 _ _ ls (lv_sub hl [1, 3] rfl) hR hF
          · have hF := if_f c66 hF
            refine lv_lload_n hx hb (dk DX11_well 46 rfl) rfl (lv_at hl 0 rfl) ?_
            refine lv_lconst (v := (0 : Int64)) hx hb (dk DX11_well 47 rfl) (by decide) ?_
            obtain ⟨k81_19, ek81_19, hF⟩ := lt_ex hF
            have J81 : ∀ (z19 : Bool) (m18 : Mem) (H : Heap) (locs : List Loc) (ls : Array Slot), lv_has ls 5 [(0, .ref (G.2.1 + 78)), (2, .int x5)] → Rp G mr0 N0 m18 s H locs → k81_19 z19 m18 = some (v, m') → W p l e (rmD 11) s mid args below meth c H locs 0 0 (MQ below (QR G mr0 N0 (some (.int v)) m') args s 0 0 (fun q => G.2.1 ≤ q)) (F0 mid 81 ls [.int (b2i z19), .int x4]) := by
              intro z19 m18 H locs ls hl hR hF
              rw [ek81_19] at hF
              refine lv_aload_n hx hb (dk DX11_well 53 rfl) rfl (lv_at hl 0 rfl) ?_
              refine lv_iload_n hx hb (dk DX11_well 54 rfl) rfl (lv_at hl 1 rfl) ?_
              refine lv_iconst (v := (1 : Int32)) hx hb (dk DX11_well 55 rfl) (by decide) ?_
              obtain ⟨x22, m20, hz21, hF⟩ := bnd_ex hF
              refine r_callVi (As := [.int x5, .int (1 : Int32)]) (rest := [.int (b2i z19), .int x4]) C hR (C_M_ofBook l hl0 G x5 (1 : Int32) m18 _ _ hz21) (by decide) (by decide) ob78 rfl wX11_446 rfl rfl (Nat.le_of_ble_eq_true rfl) hl.1 ⟨Nat.zero_le _, Nat.zero_le _⟩ (dk DX11_well 56 rfl) (fun H locs hR => ?_)
              refine lv_aload_n hx hb (dk DX11_well 57 rfl) rfl (lv_at hl 0 rfl) ?_
              refine lv_iload_n hx hb (dk DX11_well 58 rfl) rfl (lv_at hl 1 rfl) ?_
              refine lv_iconst (v := (0 : Int32)) hx hb (dk DX11_well 59 rfl) (by decide) ?_
              obtain ⟨x25, m23, hz24, hF⟩ := bnd_ex hF
              refine r_callVi (As := [.int x5, .int (0 : Int32)]) (rest := [.int x22, .int (b2i z19), .int x4]) C hR (C_M_ofBook l hl0 G x5 (0 : Int32) m20 _ _ hz24) (by decide) (by decide) ob78 rfl wX11_446 rfl rfl (Nat.le_of_ble_eq_true rfl) hl.1 ⟨Nat.zero_le _, Nat.zero_le _⟩ (dk DX11_well 60 rfl) (fun H locs hR => ?_)
              obtain ⟨k101_27, ek101_27, hF⟩ := lt_ex hF
              have J101 : ∀ (z27 : Bool) (m26 : Mem) (H : Heap) (locs : List Loc) (ls : Array Slot), lv_has ls 5 [(0, .ref (G.2.1 + 78)), (2, .int x5)] → Rp G mr0 N0 m26 s H locs → k101_27 z27 m26 = some (v, m') → W p l e (rmD 11) s mid args below meth c H locs 0 0 (MQ below (QR G mr0 N0 (some (.int v)) m') args s 0 0 (fun q => G.2.1 ≤ q)) (F0 mid 101 ls [.int (b2i z27), .int (b2i z19), .int x4]) := by
                intro z27 m26 H locs ls hl hR hF
                rw [ek101_27] at hF
                refine lv_icmp_ne (tgt := 108) hx hb (dk DX11_well 65 rfl) (by decide) (fun c101 => ?_) (fun c101 => ?_)
                · have hF := if_f c101 hF
                  refine lv_iconst (v := (0 : Int32)) hx hb (dk DX11_well 68 rfl) (by decide) ?_
                  exact J109 false m26 _ _ ls (lv_sub hl [0, 1] rfl) hR hF
                · have hF := if_t c101 hF
                  exact J104 m26 _ _ ls (lv_sub hl [0, 1] rfl) hR hF
              refine lv_icmp_ne (tgt := 100) hx hb (dk DX11_well 61 rfl) (by decide) (fun c93 => ?_) (fun c93 => ?_)
              · have hF := if_f c93 hF
                refine lv_iconst (v := (0 : Int32)) hx hb (dk DX11_well 64 rfl) (by decide) ?_
                exact J101 false m23 _ _ ls (lv_sub hl [0, 1] rfl) hR hF
              · have hF := if_t c93 hF
                refine lv_iconst (v := (1 : Int32)) hx hb (dk DX11_well 62 rfl) (by decide) ?_
                refine lv_goto (tgt := 101) hx hb (dk DX11_well 63 rfl) (by decide) ?_
                exact J101 true m23 _ _ ls (lv_sub hl [0, 1] rfl) hR hF
            refine l_ifle (tgt := 80) hx hb (dk DX11_well 48 rfl) (dk DX11_well 49 rfl) (by decide) (fun c72 => ?_) (fun c72 => ?_)
            · have hF := if_t c72 hF
              refine lv_iconst (v := (0 : Int32)) hx hb (dk DX11_well 52 rfl) (by decide) ?_
              exact J81 false m8 _ _ ls (lv_sub hl [1, 3] rfl) hR hF
            · have hF := if_f c72 hF
              refine lv_iconst (v := (1 : Int32)) hx hb (dk DX11_well 50 rfl) (by decide) ?_
              refine lv_goto (tgt := 81) hx hb (dk DX11_well 51 rfl) (by decide) ?_
              exact J81 true m8 _ _ ls (lv_sub hl [1, 3] rfl) hR hF
    exact L41 1000000 (0 : Int32) (0 : Int32) m2 _ _ ls (lv_sub hl [2, 1, 0] rfl) hR hF
  have L7 : ∀ (nf : Nat) (x29 : Int32) (m28 : Mem) (H : Heap) (locs : List Loc) (ls : Array Slot), lv_has ls 5 [(0, .ref (G.2.1 + 78)), (1, .int x29)] → Rp G mr0 N0 m28 s H locs → F_M_well_L7 k37_2 nf x29 m28 = some (v, m') → W p l e (rmD 11) s mid args below meth c H locs 0 0 (MQ below (QR G mr0 N0 (some (.int v)) m') args s 0 0 (fun q => G.2.1 ≤ q)) (F0 mid 7 ls []) := by
    intro nf
    induction nf with
    | zero =>
      intro x29 m28 H locs ls hl hR hF
      rw [F_M_well_L7] at hF
      cases hF
    | succ nf ih31 =>
      intro x29 m28 H locs ls hl hR hF
      rw [F_M_well_L7] at hF
      refine lv_iload_n hx hb (dk DX11_well 5 rfl) rfl (lv_at hl 1 rfl) ?_
      refine lv_iconst (v := (2 : Int32)) hx hb (dk DX11_well 6 rfl) (by decide) ?_
      refine lv_icmp_ge (tgt := 37) hx hb (dk DX11_well 7 rfl) (by decide) (fun c9 => ?_) (fun c9 => ?_)
      · have hF := if_t c9 hF
        exact J37 m28 _ _ ls (lv_sub hl [0] rfl) hR hF
      · have hF := if_f c9 hF
        refine lv_aload_n hx hb (dk DX11_well 8 rfl) rfl (lv_at hl 0 rfl) ?_
        refine gX11_49 C hR ob78 rf78_25 (dk DX11_well 9 rfl) ?_
        refine lv_iload_n hx hb (dk DX11_well 10 rfl) rfl (lv_at hl 1 rfl) ?_
        refine lv_aload_n hx hb (dk DX11_well 11 rfl) rfl (lv_at hl 0 rfl) ?_
        refine lv_iload_n hx hb (dk DX11_well 12 rfl) rfl (lv_at hl 1 rfl) ?_
        refine lv_iconst (v := (1 : Int32)) hx hb (dk DX11_well 13 rfl) (by decide) ?_
        obtain ⟨y34, m32, hz33, hF⟩ := bnd_ex hF
        refine r_callVl (As := [.int x29, .int (b2i true)]) (rest := [.int x29, .ref (G.2.1 + 89)]) C hR (C_M_tossWorth l hl0 G x29 true m28 _ _ hz33) (by decide) (by decide) ob78 rfl wX11_430 rfl rfl (Nat.le_of_ble_eq_true rfl) hl.1 ⟨Nat.zero_le _, Nat.zero_le _⟩ (dk DX11_well 14 rfl) (fun H locs hR => ?_)
        refine lv_aload_n hx hb (dk DX11_well 15 rfl) rfl (lv_at hl 0 rfl) ?_
        refine lv_iload_n hx hb (dk DX11_well 16 rfl) rfl (lv_at hl 1 rfl) ?_
        refine lv_iconst (v := (0 : Int32)) hx hb (dk DX11_well 17 rfl) (by decide) ?_
        obtain ⟨y37, m35, hz36, hF⟩ := bnd_ex hF
        refine r_callVl (As := [.int x29, .int (b2i false)]) (rest := [.long y34, .int x29, .ref (G.2.1 + 89)]) C hR (C_M_tossWorth l hl0 G x29 false m32 _ _ hz36) (by decide) (by decide) ob78 rfl wX11_430 rfl rfl (Nat.le_of_ble_eq_true rfl) hl.1 ⟨Nat.zero_le _, Nat.zero_le _⟩ (dk DX11_well 18 rfl) (fun H locs hR => ?_)
        refine lv_lsub hx hb (dk DX11_well 19 rfl) ?_
        obtain ⟨h39, hF⟩ := ckB_ex hF
        refine r_last C hR ob89 h39 (dk DX11_well 20 rfl) (fun H locs hR => ?_)
        obtain ⟨m38, em38, hF⟩ := lt_ex hF
        have hR := Rp_at em38 hR
        obtain ⟨x40, ex40, hF⟩ := lt_ex hF
        refine lv_iinc (v := x40) (lv' := [(1, .int x40), (0, .ref (G.2.1 + 78))]) hx hb (dk DX11_well 21 rfl) hl (k := 1) rfl (by rw [ex40]; rfl) (by decide) rfl (fun ls hl => ?_)
        refine lv_goto (tgt := 7) hx hb (dk DX11_well 22 rfl) (by decide) ?_
        exact ih31 x40 m38 _ _ ls (lv_sub hl [1, 0] rfl) hR hF
  exact L7 1000000 (0 : Int32) m1 _ _ ls (lv_sub hl [1, 0] rfl) hR hF
set_option maxHeartbeats 4000000 in
set_option maxRecDepth 100000 in
theorem C_M_when (l : Launch) (hl0 : l.stackTraces = false) (G : GG) (a1 : Int32) (a2 : Int32) (m0 : Mem) (v : Int32) (m' : Mem) (hF : F_M_when a1 a2 m0 = some (v, m')) : Ct l G mr0 N0 yX11_when cX11_when 4 (some .int) 11 [.ref (G.2.1 + 78), .int a1, .int a2] m0 (some (.int v)) m' := by
  refine Ct_of hl0 (by decide) (Nat.le_of_ble_eq_true rfl) ?_
  intro p e s mid args below meth c ls C hrt hl hR
  have hx := C.1.1
  have hb := C.1.2.1
  have hl : lv_has ls 4 [(0, .ref (G.2.1 + 78)), (1, .int a1), (2, .int a2)] := hl
  unfold F_M_when at hF
  refine lv_aload_n hx hb (dk DX11_when 0 rfl) rfl (lv_at hl 0 rfl) ?_
  refine lv_iconst (v := (0 : Int32)) hx hb (dk DX11_when 1 rfl) (by decide) ?_
  refine pX11_3 (x := (0 : Int32)) C hR ob78 (dk DX11_when 2 rfl) (fun H locs hR => ?_)
  obtain ⟨m1, em1, hF⟩ := lt_ex hF
  have hR := Rp_at em1 hR
  refine lv_aload_n hx hb (dk DX11_when 3 rfl) rfl (lv_at hl 0 rfl) ?_
  refine lv_aload_n hx hb (dk DX11_when 4 rfl) rfl (lv_at hl 0 rfl) ?_
  refine lv_iload_n hx hb (dk DX11_when 5 rfl) rfl (lv_at hl 1 rfl) ?_
  obtain ⟨z4, m2, hz3, hF⟩ := bnd_ex hF
  refine r_callVi (As := [.int a1]) (rest := [.ref (G.2.1 + 78)]) C hR (C_M_noPlayed l hl0 G a1 m1 _ _ hz3) (by decide) (by decide) ob78 rfl wX11_452 rfl rfl (Nat.le_of_ble_eq_true rfl) hl.1 ⟨Nat.zero_le _, Nat.zero_le _⟩ (dk DX11_when 6 rfl) (fun H locs hR => ?_)
  refine lv_iconst (v := (1 : Int32)) hx hb (dk DX11_when 7 rfl) (by decide) ?_
  obtain ⟨z7, m5, hz6, hF⟩ := bnd_ex hF
  refine r_callVi (As := [.int (b2i z4), .int (1 : Int32)]) (rest := []) C hR (C_M_throwsIf l hl0 G z4 (1 : Int32) m2 _ _ hz6) (by decide) (by decide) ob78 rfl wX11_227 rfl rfl (Nat.le_of_ble_eq_true rfl) hl.1 ⟨Nat.zero_le _, Nat.zero_le _⟩ (dk DX11_when 8 rfl) (fun H locs hR => ?_)
  refine z_ifne (tgt := 32) hx hb (dk DX11_when 9 rfl) (by decide) (fun c15 => ?_) (fun c15 => ?_)
  · have hF := if_t c15 hF
    refine lv_iconst (v := (0 : Int32)) hx hb (dk DX11_when 18 rfl) (by decide) ?_
    cases hF
    exact r_iret (v := (0 : Int32)) C hrt hR (dk DX11_when 19 rfl)
  · have hF := if_f c15 hF
    refine lv_aload_n hx hb (dk DX11_when 10 rfl) rfl (lv_at hl 0 rfl) ?_
    refine lv_aload_n hx hb (dk DX11_when 11 rfl) rfl (lv_at hl 0 rfl) ?_
    refine lv_iconst (v := (0 : Int32)) hx hb (dk DX11_when 12 rfl) (by decide) ?_
    refine lv_iload_n hx hb (dk DX11_when 13 rfl) rfl (lv_at hl 2 rfl) ?_
    obtain ⟨z10, m8, hz9, hF⟩ := bnd_ex hF
    refine r_callVi (As := [.int (0 : Int32), .int a2]) (rest := [.ref (G.2.1 + 78)]) C hR (C_M_noState l hl0 G (0 : Int32) a2 m5 _ _ hz9) (by decide) (by decide) ob78 rfl wX11_455 rfl rfl (Nat.le_of_ble_eq_true rfl) hl.1 ⟨Nat.zero_le _, Nat.zero_le _⟩ (dk DX11_when 14 rfl) (fun H locs hR => ?_)
    refine lv_iconst (v := (2 : Int32)) hx hb (dk DX11_when 15 rfl) (by decide) ?_
    obtain ⟨z13, m11, hz12, hF⟩ := bnd_ex hF
    refine r_callVi (As := [.int (b2i z10), .int (2 : Int32)]) (rest := []) C hR (C_M_throwsIf l hl0 G z10 (2 : Int32) m8 _ _ hz12) (by decide) (by decide) ob78 rfl wX11_227 rfl rfl (Nat.le_of_ble_eq_true rfl) hl.1 ⟨Nat.zero_le _, Nat.zero_le _⟩ (dk DX11_when 16 rfl) (fun H locs hR => ?_)
    refine z_ifeq (tgt := 34) hx hb (dk DX11_when 17 rfl) (by decide) (fun c29 => ?_) (fun c29 => ?_)
    · have hF := if_f c29 hF
      refine lv_iload_n hx hb (dk DX11_when 20 rfl) rfl (lv_at hl 1 rfl) ?_
      refine lv_aload_n hx hb (dk DX11_when 21 rfl) rfl (lv_at hl 0 rfl) ?_
      obtain ⟨x16, m14, hz15, hF⟩ := bnd_ex hF
      refine r_callVi (As := []) (rest := [.int a1]) C hR (C_M_size l hl0 G m11 _ _ hz15) (by decide) (by decide) ob78 rfl wX11_63 rfl rfl (Nat.le_of_ble_eq_true rfl) hl.1 ⟨Nat.zero_le _, Nat.zero_le _⟩ (dk DX11_when 22 rfl) (fun H locs hR => ?_)
      refine lv_icmp_ne (tgt := 45) hx hb (dk DX11_when 23 rfl) (by decide) (fun c39 => ?_) (fun c39 => ?_)
      · have hF := if_f c39 hF
        refine lv_aload_n hx hb (dk DX11_when 26 rfl) rfl (lv_at hl 0 rfl) ?_
        refine lv_iload_n hx hb (dk DX11_when 27 rfl) rfl (lv_at hl 1 rfl) ?_
        refine lv_bipush (v := (81 : Int32)) hx hb (dk DX11_when 28 rfl) (by decide) ?_
        obtain ⟨u19, m17, hz18, hF⟩ := bnd_ex hF
        refine r_callVv (As := [.int a1, .int (81 : Int32)]) (rest := []) C hR (C_M_countsFrom l hl0 G a1 (81 : Int32) m14 _ _ hz18) (by decide) (by decide) ob78 rfl wX11_458 rfl rfl (Nat.le_of_ble_eq_true rfl) hl.1 ⟨Nat.zero_le _, Nat.zero_le _⟩ (dk DX11_when 29 rfl) (fun H locs hR => ?_)
        refine lv_bipush (v := (-81 : Int32)) hx hb (dk DX11_when 30 rfl) (by decide) ?_
        refine lv_istore_n (lv' := [(3, .int (-81 : Int32)), (0, .ref (G.2.1 + 78)), (1, .int a1), (2, .int a2)]) hx hb (dk DX11_when 31 rfl) rfl hl (by decide) rfl (fun ls hl => ?_)
        obtain ⟨k78_21, ek78_21, hF⟩ := lt_ex hF
        have J78 : ∀ (x21 : Int32) (m20 : Mem) (H : Heap) (locs : List Loc) (ls : Array Slot), lv_has ls 4 [(3, .int x21)] → Rp G mr0 N0 m20 s H locs → k78_21 x21 m20 = some (v, m') → W p l e (rmD 11) s mid args below meth c H locs 0 0 (MQ below (QR G mr0 N0 (some (.int v)) m') args s 0 0 (fun q => G.2.1 ≤ q)) (F0 mid 78 ls []) := by
          intro x21 m20 H locs ls hl hR hF
          rw [ek78_21] at hF
          refine lv_iload_n hx hb (dk DX11_when 44 rfl) rfl (lv_at hl 0 rfl) ?_
          refine lv_bipush (v := (81 : Int32)) hx hb (dk DX11_when 45 rfl) (by decide) ?_
          refine lv_icmp_le (tgt := 89) hx hb (dk DX11_when 46 rfl) (by decide) (fun c81 => ?_) (fun c81 => ?_)
          · have hF := if_t c81 hF
            refine lv_iload_n hx hb (dk DX11_when 49 rfl) rfl (lv_at hl 0 rfl) ?_
            cases hF
            exact r_iret (v := x21) C hrt hR (dk DX11_when 50 rfl)
          · have hF := if_f c81 hF
            refine lv_bipush (v := (-99 : Int32)) hx hb (dk DX11_when 47 rfl) (by decide) ?_
            refine lv_goto (tgt := 90) hx hb (dk DX11_when 48 rfl) (by decide) ?_
            cases hF
            exact r_iret (v := (-99 : Int32)) C hrt hR (dk DX11_when 50 rfl)
        have L55 : ∀ (nf : Nat) (x23 : Int32) (m22 : Mem) (H : Heap) (locs : List Loc) (ls : Array Slot), lv_has ls 4 [(0, .ref (G.2.1 + 78)), (1, .int a1), (2, .int a2), (3, .int x23)] → Rp G mr0 N0 m22 s H locs → F_M_when_L55 a1 a2 k78_21 nf x23 m22 = some (v, m') → W p l e (rmD 11) s mid args below meth c H locs 0 0 (MQ below (QR G mr0 N0 (some (.int v)) m') args s 0 0 (fun q => G.2.1 ≤ q)) (F0 mid 55 ls []) := by
          intro nf
          induction nf with
          | zero =>
            intro x23 m22 H locs ls hl hR hF
            rw [F_M_when_L55] at hF
            cases hF
          | succ nf ih25 =>
            intro x23 m22 H locs ls hl hR hF
            rw [F_M_when_L55] at hF
            refine lv_iload_n hx hb (dk DX11_when 32 rfl) rfl (lv_at hl 3 rfl) ?_
            refine lv_bipush (v := (81 : Int32)) hx hb (dk DX11_when 33 rfl) (by decide) ?_
            refine lv_icmp_gt (tgt := 78) hx hb (dk DX11_when 34 rfl) (by decide) (fun c58 => ?_) (fun c58 => ?_)
            · have hF := if_t c58 hF
              exact J78 x23 m22 _ _ ls (lv_sub hl [3] rfl) hR hF
            · have hF := if_f c58 hF
              refine lv_aload_n hx hb (dk DX11_when 35 rfl) rfl (lv_at hl 0 rfl) ?_
              refine lv_iload_n hx hb (dk DX11_when 36 rfl) rfl (lv_at hl 1 rfl) ?_
              refine lv_iconst (v := (2 : Int32)) hx hb (dk DX11_when 37 rfl) (by decide) ?_
              refine lv_iload_n hx hb (dk DX11_when 38 rfl) rfl (lv_at hl 2 rfl) ?_
              refine lv_iload_n hx hb (dk DX11_when 39 rfl) rfl (lv_at hl 3 rfl) ?_
              obtain ⟨z28, m26, hz27, hF⟩ := bnd_ex hF
              refine r_callVi (As := [.int a1, .int (2 : Int32), .int a2, .int x23]) (rest := []) C hR (C_M_isChosen l hl0 G a1 (2 : Int32) a2 x23 m22 _ _ hz27) (by decide) (by decide) ob78 rfl wX11_461 rfl rfl (Nat.le_of_ble_eq_true rfl) hl.1 ⟨Nat.zero_le _, Nat.zero_le _⟩ (dk DX11_when 40 rfl) (fun H locs hR => ?_)
              refine z_ifne (tgt := 78) hx hb (dk DX11_when 41 rfl) (by decide) (fun c69 => ?_) (fun c69 => ?_)
              · have hF := if_t c69 hF
                exact J78 x23 m26 _ _ ls (lv_sub hl [3] rfl) hR hF
              · have hF := if_f c69 hF
                obtain ⟨x29, ex29, hF⟩ := lt_ex hF
                refine lv_iinc (v := x29) (lv' := [(3, .int x29), (0, .ref (G.2.1 + 78)), (1, .int a1), (2, .int a2)]) hx hb (dk DX11_when 42 rfl) hl (k := 3) rfl (by rw [ex29]; rfl) (by decide) rfl (fun ls hl => ?_)
                refine lv_goto (tgt := 55) hx hb (dk DX11_when 43 rfl) (by decide) ?_
                exact ih25 x29 m26 _ _ ls (lv_sub hl [1, 2, 3, 0] rfl) hR hF
        exact L55 1000000 (-81 : Int32) m17 _ _ ls (lv_sub hl [1, 2, 3, 0] rfl) hR hF
      · have hF := if_t c39 hF
        refine lv_bipush (v := (-99 : Int32)) hx hb (dk DX11_when 24 rfl) (by decide) ?_
        cases hF
        exact r_iret (v := (-99 : Int32)) C hrt hR (dk DX11_when 25 rfl)
    · have hF := if_t c29 hF
      refine lv_iconst (v := (0 : Int32)) hx hb (dk DX11_when 18 rfl) (by decide) ?_
      cases hF
      exact r_iret (v := (0 : Int32)) C hrt hR (dk DX11_when 19 rfl)
set_option maxHeartbeats 4000000 in
set_option maxRecDepth 100000 in
theorem C_M_wins (l : Launch) (hl0 : l.stackTraces = false) (G : GG) (a1 : Int32) (a2 : Int32) (a3 : Bool) (a4 : Int32) (a5 : Int32) (a6 : Int32) (m0 : Mem) (v : Int64) (m' : Mem) (hF : F_M_wins a1 a2 a3 a4 a5 a6 m0 = some (v, m')) : Ct l G mr0 N0 yX11_wins cX11_wins 7 (some .long) 11 [.ref (G.2.1 + 78), .int a1, .int a2, .int (b2i a3), .int a4, .int a5, .int a6] m0 (some (.long v)) m' := by
  refine Ct_of hl0 (by decide) (Nat.le_of_ble_eq_true rfl) ?_
  intro p e s mid args below meth c ls C hrt hl hR
  have hx := C.1.1
  have hb := C.1.2.1
  have hl : lv_has ls 7 [(0, .ref (G.2.1 + 78)), (1, .int a1), (2, .int a2), (3, .int (b2i a3)), (4, .int a4), (5, .int a5), (6, .int a6)] := hl
  unfold F_M_wins at hF
  refine lv_aload_n hx hb (dk DX11_wins 0 rfl) rfl (lv_at hl 0 rfl) ?_
  refine lv_iconst (v := (0 : Int32)) hx hb (dk DX11_wins 1 rfl) (by decide) ?_
  refine pX11_3 (x := (0 : Int32)) C hR ob78 (dk DX11_wins 2 rfl) (fun H locs hR => ?_)
  obtain ⟨m1, em1, hF⟩ := lt_ex hF
  have hR := Rp_at em1 hR
  refine lv_aload_n hx hb (dk DX11_wins 3 rfl) rfl (lv_at hl 0 rfl) ?_
  refine lv_aload_n hx hb (dk DX11_wins 4 rfl) rfl (lv_at hl 0 rfl) ?_
  refine lv_iload_n hx hb (dk DX11_wins 5 rfl) rfl (lv_at hl 1 rfl) ?_
  obtain ⟨z4, m2, hz3, hF⟩ := bnd_ex hF
  refine r_callVi (As := [.int a1]) (rest := [.ref (G.2.1 + 78)]) C hR (C_M_noPlayed l hl0 G a1 m1 _ _ hz3) (by decide) (by decide) ob78 rfl wX11_452 rfl rfl (Nat.le_of_ble_eq_true rfl) hl.1 ⟨Nat.zero_le _, Nat.zero_le _⟩ (dk DX11_wins 6 rfl) (fun H locs hR => ?_)
  obtain ⟨k26_6, ek26_6, hF⟩ := lt_ex hF
  have J26 : ∀ (z6 : Bool) (m5 : Mem) (H : Heap) (locs : List Loc) (ls : Array Slot), lv_has ls 7 [(0, .ref (G.2.1 + 78)), (1, .int a1), (2, .int a2), (3, .int (b2i a3)), (4, .int a4), (5, .int a5), (6, .int a6)] → Rp G mr0 N0 m5 s H locs → k26_6 z6 m5 = some (v, m') → W p l e (rmD 11) s mid args below meth c H locs 0 0 (MQ below (QR G mr0 N0 (some (.long v)) m') args s 0 0 (fun q => G.2.1 ≤ q)) (F0 mid 26 ls [.int (b2i z6), .ref (G.2.1 + 78)]) := by
    intro z6 m5 H locs ls hl hR hF
    rw [ek26_6] at hF
    refine lv_iconst (v := (1 : Int32)) hx hb (dk DX11_wins 14 rfl) (by decide) ?_
    obtain ⟨z9, m7, hz8, hF⟩ := bnd_ex hF
    refine r_callVi (As := [.int (b2i z6), .int (1 : Int32)]) (rest := []) C hR (C_M_throwsIf l hl0 G z6 (1 : Int32) m5 _ _ hz8) (by decide) (by decide) ob78 rfl wX11_227 rfl rfl (Nat.le_of_ble_eq_true rfl) hl.1 ⟨Nat.zero_le _, Nat.zero_le _⟩ (dk DX11_wins 15 rfl) (fun H locs hR => ?_)
    refine z_ifne (tgt := 72) hx hb (dk DX11_wins 16 rfl) (by decide) (fun c30 => ?_) (fun c30 => ?_)
    · have hF := if_t c30 hF
      refine lv_lconst (v := (0 : Int64)) hx hb (dk DX11_wins 37 rfl) (by decide) ?_
      cases hF
      exact r_lret (v := (0 : Int64)) C hrt hR (dk DX11_wins 38 rfl)
    · have hF := if_f c30 hF
      refine lv_aload_n hx hb (dk DX11_wins 17 rfl) rfl (lv_at hl 0 rfl) ?_
      refine lv_aload_n hx hb (dk DX11_wins 18 rfl) rfl (lv_at hl 0 rfl) ?_
      refine lv_iload hx hb (dk DX11_wins 19 rfl) (lv_at hl 4 rfl) ?_
      refine lv_iload hx hb (dk DX11_wins 20 rfl) (lv_at hl 5 rfl) ?_
      obtain ⟨z12, m10, hz11, hF⟩ := bnd_ex hF
      refine r_callVi (As := [.int a4, .int a5]) (rest := [.ref (G.2.1 + 78)]) C hR (C_M_noState l hl0 G a4 a5 m7 _ _ hz11) (by decide) (by decide) ob78 rfl wX11_455 rfl rfl (Nat.le_of_ble_eq_true rfl) hl.1 ⟨Nat.zero_le _, Nat.zero_le _⟩ (dk DX11_wins 21 rfl) (fun H locs hR => ?_)
      refine lv_iconst (v := (2 : Int32)) hx hb (dk DX11_wins 22 rfl) (by decide) ?_
      obtain ⟨z15, m13, hz14, hF⟩ := bnd_ex hF
      refine r_callVi (As := [.int (b2i z12), .int (2 : Int32)]) (rest := []) C hR (C_M_throwsIf l hl0 G z12 (2 : Int32) m10 _ _ hz14) (by decide) (by decide) ob78 rfl wX11_227 rfl rfl (Nat.le_of_ble_eq_true rfl) hl.1 ⟨Nat.zero_le _, Nat.zero_le _⟩ (dk DX11_wins 23 rfl) (fun H locs hR => ?_)
      refine z_ifne (tgt := 72) hx hb (dk DX11_wins 24 rfl) (by decide) (fun c46 => ?_) (fun c46 => ?_)
      · have hF := if_t c46 hF
        refine lv_lconst (v := (0 : Int64)) hx hb (dk DX11_wins 37 rfl) (by decide) ?_
        cases hF
        exact r_lret (v := (0 : Int64)) C hrt hR (dk DX11_wins 38 rfl)
      · have hF := if_f c46 hF
        refine lv_aload_n hx hb (dk DX11_wins 25 rfl) rfl (lv_at hl 0 rfl) ?_
        refine lv_iload hx hb (dk DX11_wins 26 rfl) (lv_at hl 6 rfl) ?_
        refine lv_iconst (v := (0 : Int32)) hx hb (dk DX11_wins 27 rfl) (by decide) ?_
        refine lv_iconst (v := (2 : Int32)) hx hb (dk DX11_wins 28 rfl) (by decide) ?_
        obtain ⟨z18, m16, hz17, hF⟩ := bnd_ex hF
        refine r_callSi (As := [.int a6, .int (0 : Int32), .int (2 : Int32)]) (rest := [.ref (G.2.1 + 78)]) C hR (C_M_in l hl0 G a6 (0 : Int32) (2 : Int32) m13 _ _ hz17) (by decide) (by decide) wX11_67 rfl rfl (Nat.le_of_ble_eq_true rfl) hl.1 ⟨Nat.zero_le _, Nat.zero_le _⟩ (dk DX11_wins 29 rfl) (fun H locs hR => ?_)
        obtain ⟨k65_20, ek65_20, hF⟩ := lt_ex hF
        have J65 : ∀ (z20 : Bool) (m19 : Mem) (H : Heap) (locs : List Loc) (ls : Array Slot), lv_has ls 7 [(0, .ref (G.2.1 + 78)), (1, .int a1), (2, .int a2), (3, .int (b2i a3)), (4, .int a4), (5, .int a5), (6, .int a6)] → Rp G mr0 N0 m19 s H locs → k65_20 z20 m19 = some (v, m') → W p l e (rmD 11) s mid args below meth c H locs 0 0 (MQ below (QR G mr0 N0 (some (.long v)) m') args s 0 0 (fun q => G.2.1 ≤ q)) (F0 mid 65 ls [.int (b2i z20), .ref (G.2.1 + 78)]) := by
          intro z20 m19 H locs ls hl hR hF
          rw [ek65_20] at hF
          refine lv_iconst (v := (3 : Int32)) hx hb (dk DX11_wins 34 rfl) (by decide) ?_
          obtain ⟨z23, m21, hz22, hF⟩ := bnd_ex hF
          refine r_callVi (As := [.int (b2i z20), .int (3 : Int32)]) (rest := []) C hR (C_M_throwsIf l hl0 G z20 (3 : Int32) m19 _ _ hz22) (by decide) (by decide) ob78 rfl wX11_227 rfl rfl (Nat.le_of_ble_eq_true rfl) hl.1 ⟨Nat.zero_le _, Nat.zero_le _⟩ (dk DX11_wins 35 rfl) (fun H locs hR => ?_)
          refine z_ifeq (tgt := 74) hx hb (dk DX11_wins 36 rfl) (by decide) (fun c69 => ?_) (fun c69 => ?_)
          · have hF := if_f c69 hF
            refine lv_aload_n hx hb (dk DX11_wins 39 rfl) rfl (lv_at hl 0 rfl) ?_
            refine lv_iload_n hx hb (dk DX11_wins 40 rfl) rfl (lv_at hl 1 rfl) ?_
            refine lv_iload hx hb (dk DX11_wins 41 rfl) (lv_at hl 4 rfl) ?_
            obtain ⟨u26, m24, hz25, hF⟩ := bnd_ex hF
            refine r_callVv (As := [.int a1, .int a4]) (rest := []) C hR (C_M_countsFrom l hl0 G a1 a4 m21 _ _ hz25) (by decide) (by decide) ob78 rfl wX11_458 rfl rfl (Nat.le_of_ble_eq_true rfl) hl.1 ⟨Nat.zero_le _, Nat.zero_le _⟩ (dk DX11_wins 42 rfl) (fun H locs hR => ?_)
            refine lv_aload_n hx hb (dk DX11_wins 43 rfl) rfl (lv_at hl 0 rfl) ?_
            refine lv_iconst (v := (0 : Int32)) hx hb (dk DX11_wins 44 rfl) (by decide) ?_
            refine pX11_340 (x := (0 : Int32)) C hR ob78 (dk DX11_wins 45 rfl) (fun H locs hR => ?_)
            obtain ⟨m27, em27, hF⟩ := lt_ex hF
            have hR := Rp_at em27 hR
            refine lv_aload_n hx hb (dk DX11_wins 46 rfl) rfl (lv_at hl 0 rfl) ?_
            refine lv_iconst (v := (0 : Int32)) hx hb (dk DX11_wins 47 rfl) (by decide) ?_
            refine pX11_343 (x := (0 : Int32)) C hR ob78 (dk DX11_wins 48 rfl) (fun H locs hR => ?_)
            obtain ⟨m28, em28, hF⟩ := lt_ex hF
            have hR := Rp_at em28 hR
            refine lv_iload_n hx hb (dk DX11_wins 49 rfl) rfl (lv_at hl 1 rfl) ?_
            refine lv_aload_n hx hb (dk DX11_wins 50 rfl) rfl (lv_at hl 0 rfl) ?_
            obtain ⟨x31, m29, hz30, hF⟩ := bnd_ex hF
            refine r_callVi (As := []) (rest := [.int a1]) C hR (C_M_size l hl0 G m28 _ _ hz30) (by decide) (by decide) ob78 rfl wX11_63 rfl rfl (Nat.le_of_ble_eq_true rfl) hl.1 ⟨Nat.zero_le _, Nat.zero_le _⟩ (dk DX11_wins 51 rfl) (fun H locs hR => ?_)
            obtain ⟨k113_32, ek113_32, hF⟩ := lt_ex hF
            have J113 : ∀ (m32 : Mem) (H : Heap) (locs : List Loc) (ls : Array Slot), lv_has ls 7 [(0, .ref (G.2.1 + 78)), (1, .int a1), (6, .int a6)] → Rp G mr0 N0 m32 s H locs → k113_32  m32 = some (v, m') → W p l e (rmD 11) s mid args below meth c H locs 0 0 (MQ below (QR G mr0 N0 (some (.long v)) m') args s 0 0 (fun q => G.2.1 ≤ q)) (F0 mid 113 ls []) := by
              intro  m32 H locs ls hl hR hF
              rw [ek113_32] at hF
              refine lv_aload_n hx hb (dk DX11_wins 61 rfl) rfl (lv_at hl 0 rfl) ?_
              refine lv_iload hx hb (dk DX11_wins 62 rfl) (lv_at hl 2 rfl) ?_
              refine lv_iload_n hx hb (dk DX11_wins 63 rfl) rfl (lv_at hl 1 rfl) ?_
              refine lv_iconst (v := (0 : Int32)) hx hb (dk DX11_wins 64 rfl) (by decide) ?_
              obtain ⟨y35, m33, hz34, hF⟩ := bnd_ex hF
              refine r_callVl (As := [.int a6, .int a1, .int (0 : Int32)]) (rest := []) C hR (C_M_waysOf l hl0 G a6 a1 (0 : Int32) m32 _ _ hz34) (by decide) (by decide) ob78 rfl wX11_427 rfl rfl (Nat.le_of_ble_eq_true rfl) hl.1 ⟨Nat.zero_le _, Nat.zero_le _⟩ (dk DX11_wins 65 rfl) (fun H locs hR => ?_)
              cases hF
              exact r_lret (v := y35) C hrt hR (dk DX11_wins 66 rfl)
            refine lv_icmp_ge (tgt := 113) hx hb (dk DX11_wins 52 rfl) (by decide) (fun c96 => ?_) (fun c96 => ?_)
            · have hF := if_t c96 hF
              exact J113 m29 _ _ ls (lv_sub hl [0, 1, 6] rfl) hR hF
            · have hF := if_f c96 hF
              refine lv_aload_n hx hb (dk DX11_wins 53 rfl) rfl (lv_at hl 0 rfl) ?_
              refine lv_iload_n hx hb (dk DX11_wins 54 rfl) rfl (lv_at hl 1 rfl) ?_
              refine lv_iload_n hx hb (dk DX11_wins 55 rfl) rfl (lv_at hl 2 rfl) ?_
              refine lv_iload_n hx hb (dk DX11_wins 56 rfl) rfl (lv_at hl 3 rfl) ?_
              obtain ⟨x38, m36, hz37, hF⟩ := bnd_ex hF
              refine r_callSi (As := [.int a2, .int (b2i a3)]) (rest := [.int a1, .ref (G.2.1 + 78)]) C hR (C_M_kindOf l hl0 G a2 a3 m29 _ _ hz37) (by decide) (by decide) wX11_406 rfl rfl (Nat.le_of_ble_eq_true rfl) hl.1 ⟨Nat.zero_le _, Nat.zero_le _⟩ (dk DX11_wins 57 rfl) (fun H locs hR => ?_)
              refine lv_iload hx hb (dk DX11_wins 58 rfl) (lv_at hl 5 rfl) ?_
              refine lv_iload hx hb (dk DX11_wins 59 rfl) (lv_at hl 4 rfl) ?_
              obtain ⟨u41, m39, hz40, hF⟩ := bnd_ex hF
              refine r_callVv (As := [.int a1, .int x38, .int a5, .int a4]) (rest := []) C hR (C_M_takes l hl0 G a1 x38 a5 a4 m36 _ _ hz40) (by decide) (by decide) ob78 rfl wX11_421 rfl rfl (Nat.le_of_ble_eq_true rfl) hl.1 ⟨Nat.zero_le _, Nat.zero_le _⟩ (dk DX11_wins 60 rfl) (fun H locs hR => ?_)
              exact J113 m39 _ _ ls (lv_sub hl [0, 1, 6] rfl) hR hF
          · have hF := if_t c69 hF
            refine lv_lconst (v := (0 : Int64)) hx hb (dk DX11_wins 37 rfl) (by decide) ?_
            cases hF
            exact r_lret (v := (0 : Int64)) C hrt hR (dk DX11_wins 38 rfl)
        refine z_ifne (tgt := 64) hx hb (dk DX11_wins 30 rfl) (by decide) (fun c57 => ?_) (fun c57 => ?_)
        · have hF := if_t c57 hF
          refine lv_iconst (v := (0 : Int32)) hx hb (dk DX11_wins 33 rfl) (by decide) ?_
          exact J65 false m16 _ _ ls (lv_sub hl [0, 1, 2, 3, 4, 5, 6] rfl) hR hF
        · have hF := if_f c57 hF
          refine lv_iconst (v := (1 : Int32)) hx hb (dk DX11_wins 31 rfl) (by decide) ?_
          refine lv_goto (tgt := 65) hx hb (dk DX11_wins 32 rfl) (by decide) ?_
          exact J65 true m16 _ _ ls (lv_sub hl [0, 1, 2, 3, 4, 5, 6] rfl) hR hF
  obtain ⟨k21_42, ek21_42, hF⟩ := lt_ex hF
  have J21 : ∀ (m42 : Mem) (H : Heap) (locs : List Loc) (ls : Array Slot), lv_has ls 7 [(0, .ref (G.2.1 + 78)), (1, .int a1), (2, .int a2), (3, .int (b2i a3)), (4, .int a4), (5, .int a5), (6, .int a6)] → Rp G mr0 N0 m42 s H locs → k21_42  m42 = some (v, m') → W p l e (rmD 11) s mid args below meth c H locs 0 0 (MQ below (QR G mr0 N0 (some (.long v)) m') args s 0 0 (fun q => G.2.1 ≤ q)) (F0 mid 21 ls [.ref (G.2.1 + 78)]) := by
    intro  m42 H locs ls hl hR hF
    rw [ek21_42] at hF
    refine lv_iconst (v := (1 : Int32)) hx hb (dk DX11_wins 11 rfl) (by decide) ?_
    refine lv_goto (tgt := 26) hx hb (dk DX11_wins 12 rfl) (by decide) ?_
    exact J26 true m42 _ _ ls (lv_sub hl [0, 1, 2, 3, 4, 5, 6] rfl) hR hF
  refine z_ifne (tgt := 21) hx hb (dk DX11_wins 7 rfl) (by decide) (fun c11 => ?_) (fun c11 => ?_)
  · have hF := if_t c11 hF
    exact J21 m2 _ _ ls (lv_sub hl [0, 1, 2, 3, 4, 5, 6] rfl) hR hF
  · have hF := if_f c11 hF
    refine lv_iload_n hx hb (dk DX11_wins 8 rfl) rfl (lv_at hl 2 rfl) ?_
    obtain ⟨z45, m43, hz44, hF⟩ := bnd_ex hF
    refine r_callSi (As := [.int a2]) (rest := [.ref (G.2.1 + 78)]) C hR (C_M_noInnings l hl0 G a2 m2 _ _ hz44) (by decide) (by decide) wX11_256 rfl rfl (Nat.le_of_ble_eq_true rfl) hl.1 ⟨Nat.zero_le _, Nat.zero_le _⟩ (dk DX11_wins 9 rfl) (fun H locs hR => ?_)
    refine z_ifeq (tgt := 25) hx hb (dk DX11_wins 10 rfl) (by decide) (fun c18 => ?_) (fun c18 => ?_)
    · have hF := if_f c18 hF
      refine lv_iconst (v := (0 : Int32)) hx hb (dk DX11_wins 13 rfl) (by decide) ?_
      exact J26 false m43 _ _ ls (lv_sub hl [0, 1, 2, 3, 4, 5, 6] rfl) hR hF
    · have hF := if_t c18 hF
      exact J21 m43 _ _ ls (lv_sub hl [0, 1, 2, 3, 4, 5, 6] rfl) hR hF
