set_option maxHeartbeats 4000000 in
set_option maxRecDepth 100000 in
theorem C_GT_keep (l : Launch) (hl0 : l.stackTraces = false) (G : GG) (a1 : Int32) (a2 : Int32) (a3 : Int32) (a4 : Int32) (a5 : Int32) (m0 : Mem) (v : Unit) (m' : Mem) (hF : F_GT_keep a1 a2 a3 a4 a5 m0 = some (v, m')) : Ct l G mr0 N0 yX2_keep cX2_keep 7 none 1 [.ref (G.2.1 + 46), .int a1, .int a2, .int a3, .int a4, .int a5] m0 none m' := by
  refine Ct_of hl0 (by decide) (Nat.le_of_ble_eq_true rfl) ?_
  intro p e s mid args below meth c ls C hrt hl hR
  have hx := C.1.1
  have hb := C.1.2.1
  have hl : lv_has ls 7 [(0, .ref (G.2.1 + 46)), (1, .int a1), (2, .int a2), (3, .int a3), (4, .int a4), (5, .int a5)] := hl
  unfold F_GT_keep at hF
  refine lv_aload_n hx hb (dk DX2_keep 0 rfl) rfl (lv_at hl 0 rfl) ?_
  refine gX2_15 C hR ob46 (dk DX2_keep 1 rfl) ?_
  refine lv_iconst (v := (5 : Int32)) hx hb (dk DX2_keep 2 rfl) (by decide) ?_
  refine lv_imul hx hb (dk DX2_keep 3 rfl) ?_
  refine lv_topi (fun x1 ex1 => ?_)
  have hF := lt_at ex1 hF
  refine lv_istore (lv' := [(6, .int x1), (0, .ref (G.2.1 + 46)), (1, .int a1), (2, .int a2), (3, .int a3), (4, .int a4), (5, .int a5)]) hx hb (dk DX2_keep 4 rfl) hl (by decide) rfl (fun ls hl => ?_)
  refine lv_iload hx hb (dk DX2_keep 5 rfl) (lv_at hl 0 rfl) ?_
  refine lv_if_lt (tgt := 82) hx hb (dk DX2_keep 6 rfl) (by decide) (fun c10 => ?_) (fun c10 => ?_)
  · have hF := if_t c10 hF
    cases hF
    exact r_vret C hrt hR (dk DX2_keep 51 rfl)
  · have hF := if_f c10 hF
    refine lv_iload hx hb (dk DX2_keep 7 rfl) (lv_at hl 0 rfl) ?_
    refine lv_iconst (v := (5 : Int32)) hx hb (dk DX2_keep 8 rfl) (by decide) ?_
    refine lv_iadd hx hb (dk DX2_keep 9 rfl) ?_
    refine lv_bipush (v := (70 : Int32)) hx hb (dk DX2_keep 10 rfl) (by decide) ?_
    refine lv_icmp_gt (tgt := 82) hx hb (dk DX2_keep 11 rfl) (by decide) (fun c19 => ?_) (fun c19 => ?_)
    · have hF := if_t c19 hF
      cases hF
      exact r_vret C hrt hR (dk DX2_keep 51 rfl)
    · have hF := if_f c19 hF
      refine lv_aload_n hx hb (dk DX2_keep 12 rfl) rfl (lv_at hl 1 rfl) ?_
      refine gX2_11 C hR ob46 rf46_7 (dk DX2_keep 13 rfl) ?_
      refine lv_iload hx hb (dk DX2_keep 14 rfl) (lv_at hl 0 rfl) ?_
      refine lv_iload_n hx hb (dk DX2_keep 15 rfl) rfl (lv_at hl 2 rfl) ?_
      obtain ⟨h3, hF⟩ := ckB_ex hF
      refine r_iast C hR ob51 h3 (dk DX2_keep 16 rfl) (fun H locs hR => ?_)
      obtain ⟨m2, em2, hF⟩ := lt_ex hF
      have hR := Rp_at em2 hR
      refine lv_aload_n hx hb (dk DX2_keep 17 rfl) rfl (lv_at hl 1 rfl) ?_
      refine gX2_11 C hR ob46 rf46_7 (dk DX2_keep 18 rfl) ?_
      refine lv_iload hx hb (dk DX2_keep 19 rfl) (lv_at hl 0 rfl) ?_
      refine lv_iconst (v := (1 : Int32)) hx hb (dk DX2_keep 20 rfl) (by decide) ?_
      refine lv_iadd hx hb (dk DX2_keep 21 rfl) ?_
      refine lv_iload_n hx hb (dk DX2_keep 22 rfl) rfl (lv_at hl 3 rfl) ?_
      obtain ⟨h5, hF⟩ := ckB_ex hF
      refine r_iast C hR ob51 h5 (dk DX2_keep 23 rfl) (fun H locs hR => ?_)
      obtain ⟨m4, em4, hF⟩ := lt_ex hF
      have hR := Rp_at em4 hR
      refine lv_aload_n hx hb (dk DX2_keep 24 rfl) rfl (lv_at hl 1 rfl) ?_
      refine gX2_11 C hR ob46 rf46_7 (dk DX2_keep 25 rfl) ?_
      refine lv_iload hx hb (dk DX2_keep 26 rfl) (lv_at hl 0 rfl) ?_
      refine lv_iconst (v := (2 : Int32)) hx hb (dk DX2_keep 27 rfl) (by decide) ?_
      refine lv_iadd hx hb (dk DX2_keep 28 rfl) ?_
      refine lv_iload_n hx hb (dk DX2_keep 29 rfl) rfl (lv_at hl 4 rfl) ?_
      obtain ⟨h7, hF⟩ := ckB_ex hF
      refine r_iast C hR ob51 h7 (dk DX2_keep 30 rfl) (fun H locs hR => ?_)
      obtain ⟨m6, em6, hF⟩ := lt_ex hF
      have hR := Rp_at em6 hR
      refine lv_aload_n hx hb (dk DX2_keep 31 rfl) rfl (lv_at hl 1 rfl) ?_
      refine gX2_11 C hR ob46 rf46_7 (dk DX2_keep 32 rfl) ?_
      refine lv_iload hx hb (dk DX2_keep 33 rfl) (lv_at hl 0 rfl) ?_
      refine lv_iconst (v := (3 : Int32)) hx hb (dk DX2_keep 34 rfl) (by decide) ?_
      refine lv_iadd hx hb (dk DX2_keep 35 rfl) ?_
      refine lv_iload hx hb (dk DX2_keep 36 rfl) (lv_at hl 5 rfl) ?_
      obtain ⟨h9, hF⟩ := ckB_ex hF
      refine r_iast C hR ob51 h9 (dk DX2_keep 37 rfl) (fun H locs hR => ?_)
      obtain ⟨m8, em8, hF⟩ := lt_ex hF
      have hR := Rp_at em8 hR
      refine lv_aload_n hx hb (dk DX2_keep 38 rfl) rfl (lv_at hl 1 rfl) ?_
      refine gX2_11 C hR ob46 rf46_7 (dk DX2_keep 39 rfl) ?_
      refine lv_iload hx hb (dk DX2_keep 40 rfl) (lv_at hl 0 rfl) ?_
      refine lv_iconst (v := (4 : Int32)) hx hb (dk DX2_keep 41 rfl) (by decide) ?_
      refine lv_iadd hx hb (dk DX2_keep 42 rfl) ?_
      refine lv_iload hx hb (dk DX2_keep 43 rfl) (lv_at hl 6 rfl) ?_
      obtain ⟨h11, hF⟩ := ckB_ex hF
      refine r_iast C hR ob51 h11 (dk DX2_keep 44 rfl) (fun H locs hR => ?_)
      obtain ⟨m10, em10, hF⟩ := lt_ex hF
      have hR := Rp_at em10 hR
      refine lv_aload_n hx hb (dk DX2_keep 45 rfl) rfl (lv_at hl 1 rfl) ?_
      refine lv_dup hx hb (dk DX2_keep 46 rfl) rfl ?_
      refine gX2_15 C hR ob46 (dk DX2_keep 47 rfl) ?_
      refine lv_iconst (v := (1 : Int32)) hx hb (dk DX2_keep 48 rfl) (by decide) ?_
      refine lv_iadd hx hb (dk DX2_keep 49 rfl) ?_
      refine pX2_15 (x := (gI m10 46 8) + (1 : Int32)) C hR ob46 (dk DX2_keep 50 rfl) (fun H locs hR => ?_)
      obtain ⟨m12, em12, hF⟩ := lt_ex hF
      have hR := Rp_at em12 hR
      cases hF
      exact r_vret C hrt hR (dk DX2_keep 51 rfl)
set_option maxHeartbeats 4000000 in
set_option maxRecDepth 100000 in
theorem C_GT_readBook (l : Launch) (hl0 : l.stackTraces = false) (G : GG) (m0 : Mem) (v : Unit) (m' : Mem) (hF : F_GT_readBook m0 = some (v, m')) : Ct l G mr0 N0 yX2_readBook cX2_readBook 4 none 3 [.ref (G.2.1 + 46)] m0 none m' := by
  refine Ct_of hl0 (by decide) (Nat.le_of_ble_eq_true rfl) ?_
  intro p e s mid args below meth c ls C hrt hl hR
  have hx := C.1.1
  have hb := C.1.2.1
  have hl : lv_has ls 4 [(0, .ref (G.2.1 + 46))] := hl
  unfold F_GT_readBook at hF
  refine lv_aload_n hx hb (dk DX2_readBook 0 rfl) rfl (lv_at hl 0 rfl) ?_
  refine lv_iconst (v := (0 : Int32)) hx hb (dk DX2_readBook 1 rfl) (by decide) ?_
  refine lv_iconst (v := (1 : Int32)) hx hb (dk DX2_readBook 2 rfl) (by decide) ?_
  obtain ⟨x3, m1, hz2, hF⟩ := bnd_ex hF
  refine r_callUi (As := [.int (0 : Int32), .int (1 : Int32)]) (rest := []) C hR (C_Tx_numberG l hl0 G (0 : Int32) (1 : Int32) m0 _ _ hz2) (by decide) (by decide) ob46 rfl wX2_39_2 rfl rfl (Nat.le_of_ble_eq_true rfl) hl.1 ⟨Nat.zero_le _, Nat.zero_le _⟩ (dk DX2_readBook 3 rfl) (fun H locs hR => ?_)
  refine lv_istore_n (lv' := [(1, .int x3), (0, .ref (G.2.1 + 46))]) hx hb (dk DX2_readBook 4 rfl) rfl hl (by decide) rfl (fun ls hl => ?_)
  refine lv_aload_n hx hb (dk DX2_readBook 5 rfl) rfl (lv_at hl 1 rfl) ?_
  refine lv_iconst (v := (0 : Int32)) hx hb (dk DX2_readBook 6 rfl) (by decide) ?_
  refine lv_iconst (v := (1 : Int32)) hx hb (dk DX2_readBook 7 rfl) (by decide) ?_
  obtain ⟨x6, m4, hz5, hF⟩ := bnd_ex hF
  refine r_callUi (As := [.int (0 : Int32), .int (1 : Int32)]) (rest := []) C hR (C_Tx_numberG l hl0 G (0 : Int32) (1 : Int32) m1 _ _ hz5) (by decide) (by decide) ob46 rfl wX2_39_2 rfl rfl (Nat.le_of_ble_eq_true rfl) hl.1 ⟨Nat.zero_le _, Nat.zero_le _⟩ (dk DX2_readBook 8 rfl) (fun H locs hR => ?_)
  refine lv_istore_n (lv' := [(2, .int x6), (1, .int x3), (0, .ref (G.2.1 + 46))]) hx hb (dk DX2_readBook 9 rfl) rfl hl (by decide) rfl (fun ls hl => ?_)
  refine lv_aload_n hx hb (dk DX2_readBook 10 rfl) rfl (lv_at hl 2 rfl) ?_
  refine lv_iconst (v := (0 : Int32)) hx hb (dk DX2_readBook 11 rfl) (by decide) ?_
  refine lv_iconst (v := (2 : Int32)) hx hb (dk DX2_readBook 12 rfl) (by decide) ?_
  obtain ⟨x9, m7, hz8, hF⟩ := bnd_ex hF
  refine r_callUi (As := [.int (0 : Int32), .int (2 : Int32)]) (rest := []) C hR (C_Tx_numberG l hl0 G (0 : Int32) (2 : Int32) m4 _ _ hz8) (by decide) (by decide) ob46 rfl wX2_39_2 rfl rfl (Nat.le_of_ble_eq_true rfl) hl.1 ⟨Nat.zero_le _, Nat.zero_le _⟩ (dk DX2_readBook 13 rfl) (fun H locs hR => ?_)
  refine lv_istore_n (lv' := [(3, .int x9), (2, .int x6), (1, .int x3), (0, .ref (G.2.1 + 46))]) hx hb (dk DX2_readBook 14 rfl) rfl hl (by decide) rfl (fun ls hl => ?_)
  refine lv_aload_n hx hb (dk DX2_readBook 15 rfl) rfl (lv_at hl 3 rfl) ?_
  refine lv_dup hx hb (dk DX2_readBook 16 rfl) rfl ?_
  refine gX2_19 C hR ob46 (dk DX2_readBook 17 rfl) ?_
  refine lv_iconst (v := (1 : Int32)) hx hb (dk DX2_readBook 18 rfl) (by decide) ?_
  refine lv_iadd hx hb (dk DX2_readBook 19 rfl) ?_
  refine pX2_19 (x := (gI m7 46 9) + (1 : Int32)) C hR ob46 (dk DX2_readBook 20 rfl) (fun H locs hR => ?_)
  obtain ⟨m10, em10, hF⟩ := lt_ex hF
  have hR := Rp_at em10 hR
  refine lv_aload_n hx hb (dk DX2_readBook 21 rfl) rfl (lv_at hl 3 rfl) ?_
  refine lv_bipush (v := (8 : Int32)) hx hb (dk DX2_readBook 22 rfl) (by decide) ?_
  refine lv_iload_n hx hb (dk DX2_readBook 23 rfl) rfl (lv_at hl 2 rfl) ?_
  refine lv_iload_n hx hb (dk DX2_readBook 24 rfl) rfl (lv_at hl 1 rfl) ?_
  refine lv_iload_n hx hb (dk DX2_readBook 25 rfl) rfl (lv_at hl 0 rfl) ?_
  refine lv_iconst (v := (0 : Int32)) hx hb (dk DX2_readBook 26 rfl) (by decide) ?_
  obtain ⟨u13, m11, hz12, hF⟩ := bnd_ex hF
  refine r_callVv (As := [.int (8 : Int32), .int x3, .int x6, .int x9, .int (0 : Int32)]) (rest := []) C hR (C_GT_keep l hl0 G (8 : Int32) x3 x6 x9 (0 : Int32) m10 _ _ hz12) (by decide) (by decide) ob46 rfl wX2_43 rfl rfl (Nat.le_of_ble_eq_true rfl) hl.1 ⟨Nat.zero_le _, Nat.zero_le _⟩ (dk DX2_readBook 27 rfl) (fun H locs hR => ?_)
  cases hF
  exact r_vret C hrt hR (dk DX2_readBook 28 rfl)
set_option maxHeartbeats 4000000 in
set_option maxRecDepth 100000 in
theorem C_Tx_isAtNumberG (l : Launch) (hl0 : l.stackTraces = false) (G : GG) (m0 : Mem) (v : Bool) (m' : Mem) (hF : F_Tx_isAtNumberG m0 = some (v, m')) : Ct l G mr0 N0 yX9_isAtNumber cX9_isAtNumber 1 (some .boolean) 2 [.ref (G.2.1 + 46)] m0 (some (.int (b2i v))) m' := by
  refine Ct_of hl0 (by decide) (Nat.le_of_ble_eq_true rfl) ?_
  intro p e s mid args below meth c ls C hrt hl hR
  have hx := C.1.1
  have hb := C.1.2.1
  have hl : lv_has ls 1 [(0, .ref (G.2.1 + 46))] := hl
  unfold F_Tx_isAtNumberG at hF
  refine lv_aload_n hx hb (dk DX9_isAtNumber 0 rfl) rfl (lv_at hl 0 rfl) ?_
  refine lv_iconst (v := (1 : Int32)) hx hb (dk DX9_isAtNumber 1 rfl) (by decide) ?_
  obtain ⟨z3, m1, hz2, hF⟩ := bnd_ex hF
  refine r_callVi (As := [.int (1 : Int32)]) (rest := []) C hR (C_Tx_isAtG l hl0 G (1 : Int32) m0 _ _ hz2) (by decide) (by decide) ob46 rfl wX9_44_2 rfl rfl (Nat.le_of_ble_eq_true rfl) hl.1 ⟨Nat.zero_le _, Nat.zero_le _⟩ (dk DX9_isAtNumber 2 rfl) (fun H locs hR => ?_)
  cases hF
  exact r_zret (v := z3) C hrt hR (dk DX9_isAtNumber 3 rfl)
set_option maxHeartbeats 4000000 in
set_option maxRecDepth 100000 in
theorem C_GT_readBits (l : Launch) (hl0 : l.stackTraces = false) (G : GG) (m0 : Mem) (v : Int32) (m' : Mem) (hF : F_GT_readBits m0 = some (v, m')) : Ct l G mr0 N0 yX2_readBits cX2_readBits 3 (some .int) 3 [.ref (G.2.1 + 46)] m0 (some (.int v)) m' := by
  refine Ct_of hl0 (by decide) (Nat.le_of_ble_eq_true rfl) ?_
  intro p e s mid args below meth c ls C hrt hl hR
  have hx := C.1.1
  have hb := C.1.2.1
  have hl : lv_has ls 3 [(0, .ref (G.2.1 + 46))] := hl
  unfold F_GT_readBits at hF
  refine lv_iconst (v := (1 : Int32)) hx hb (dk DX2_readBits 0 rfl) (by decide) ?_
  refine lv_aload_n hx hb (dk DX2_readBits 1 rfl) rfl (lv_at hl 0 rfl) ?_
  refine lv_iconst (v := (0 : Int32)) hx hb (dk DX2_readBits 2 rfl) (by decide) ?_
  refine lv_bipush (v := (8 : Int32)) hx hb (dk DX2_readBits 3 rfl) (by decide) ?_
  obtain ⟨x3, m1, hz2, hF⟩ := bnd_ex hF
  refine r_callUi (As := [.int (0 : Int32), .int (8 : Int32)]) (rest := [.int (1 : Int32)]) C hR (C_Tx_numberG l hl0 G (0 : Int32) (8 : Int32) m0 _ _ hz2) (by decide) (by decide) ob46 rfl wX2_39_2 rfl rfl (Nat.le_of_ble_eq_true rfl) hl.1 ⟨Nat.zero_le _, Nat.zero_le _⟩ (dk DX2_readBits 4 rfl) (fun H locs hR => ?_)
  refine lv_ishl hx hb (dk DX2_readBits 5 rfl) ?_
  refine lv_topi (fun x4 ex4 => ?_)
  have hF := lt_at ex4 hF
  refine lv_istore_n (lv' := [(1, .int x4), (0, .ref (G.2.1 + 46))]) hx hb (dk DX2_readBits 6 rfl) rfl hl (by decide) rfl (fun ls hl => ?_)
  refine lv_iconst (v := (0 : Int32)) hx hb (dk DX2_readBits 7 rfl) (by decide) ?_
  refine lv_istore_n (lv' := [(2, .int (0 : Int32)), (1, .int x4), (0, .ref (G.2.1 + 46))]) hx hb (dk DX2_readBits 8 rfl) rfl hl (by decide) rfl (fun ls hl => ?_)
  have L12 : ∀ (nf : Nat) (x6 : Int32) (x7 : Int32) (m5 : Mem) (H : Heap) (locs : List Loc) (ls : Array Slot), lv_has ls 3 [(0, .ref (G.2.1 + 46)), (1, .int x6), (2, .int x7)] → Rp G mr0 N0 m5 s H locs → F_GT_readBits_L12 nf x6 x7 m5 = some (v, m') → W p l e (rmD 3) s mid args below meth c H locs 0 0 (MQ below (QR G mr0 N0 (some (.int v)) m') args s 0 0 (fun q => G.2.1 ≤ q)) (F0 mid 12 ls []) := by
    intro nf
    induction nf with
    | zero =>
      intro x6 x7 m5 H locs ls hl hR hF
      rw [F_GT_readBits_L12] at hF
      cases hF
    | succ nf ih9 =>
      intro x6 x7 m5 H locs ls hl hR hF
      rw [F_GT_readBits_L12] at hF
      refine lv_iload_n hx hb (dk DX2_readBits 9 rfl) rfl (lv_at hl 2 rfl) ?_
      refine lv_sipush (v := (400 : Int32)) hx hb (dk DX2_readBits 10 rfl) (by decide) ?_
      refine lv_icmp_ge (tgt := 44) hx hb (dk DX2_readBits 11 rfl) (by decide) (fun c16 => ?_) (fun c16 => ?_)
      · have hF := if_t c16 hF
        refine lv_iload_n hx hb (dk DX2_readBits 26 rfl) rfl (lv_at hl 1 rfl) ?_
        cases hF
        exact r_iret (v := x6) C hrt hR (dk DX2_readBits 27 rfl)
      · have hF := if_f c16 hF
        refine lv_aload_n hx hb (dk DX2_readBits 12 rfl) rfl (lv_at hl 0 rfl) ?_
        obtain ⟨z12, m10, hz11, hF⟩ := bnd_ex hF
        refine r_callUi (As := []) (rest := []) C hR (C_Tx_isAtNumberG l hl0 G m5 _ _ hz11) (by decide) (by decide) ob46 rfl wX2_91_2 rfl rfl (Nat.le_of_ble_eq_true rfl) hl.1 ⟨Nat.zero_le _, Nat.zero_le _⟩ (dk DX2_readBits 13 rfl) (fun H locs hR => ?_)
        refine z_ifeq (tgt := 44) hx hb (dk DX2_readBits 14 rfl) (by decide) (fun c23 => ?_) (fun c23 => ?_)
        · have hF := if_f c23 hF
          refine lv_iload_n hx hb (dk DX2_readBits 26 rfl) rfl (lv_at hl 1 rfl) ?_
          cases hF
          exact r_iret (v := x6) C hrt hR (dk DX2_readBits 27 rfl)
        · have hF := if_t c23 hF
          refine lv_iload_n hx hb (dk DX2_readBits 15 rfl) rfl (lv_at hl 1 rfl) ?_
          refine lv_iconst (v := (1 : Int32)) hx hb (dk DX2_readBits 16 rfl) (by decide) ?_
          refine lv_aload_n hx hb (dk DX2_readBits 17 rfl) rfl (lv_at hl 0 rfl) ?_
          refine lv_iconst (v := (0 : Int32)) hx hb (dk DX2_readBits 18 rfl) (by decide) ?_
          refine lv_bipush (v := (8 : Int32)) hx hb (dk DX2_readBits 19 rfl) (by decide) ?_
          obtain ⟨x15, m13, hz14, hF⟩ := bnd_ex hF
          refine r_callUi (As := [.int (0 : Int32), .int (8 : Int32)]) (rest := [.int (1 : Int32), .int x6]) C hR (C_Tx_numberG l hl0 G (0 : Int32) (8 : Int32) m10 _ _ hz14) (by decide) (by decide) ob46 rfl wX2_39_2 rfl rfl (Nat.le_of_ble_eq_true rfl) hl.1 ⟨Nat.zero_le _, Nat.zero_le _⟩ (dk DX2_readBits 20 rfl) (fun H locs hR => ?_)
          refine lv_ishl hx hb (dk DX2_readBits 21 rfl) ?_
          refine lv_ior hx hb (dk DX2_readBits 22 rfl) ?_
          refine lv_topi (fun x16 ex16 => ?_)
          have hF := lt_at ex16 hF
          refine lv_istore_n (lv' := [(1, .int x16), (0, .ref (G.2.1 + 46)), (2, .int x7)]) hx hb (dk DX2_readBits 23 rfl) rfl hl (by decide) rfl (fun ls hl => ?_)
          obtain ⟨x17, ex17, hF⟩ := lt_ex hF
          refine lv_iinc (v := x17) (lv' := [(2, .int x17), (1, .int x16), (0, .ref (G.2.1 + 46))]) hx hb (dk DX2_readBits 24 rfl) hl (k := 2) rfl (by rw [ex17]; rfl) (by decide) rfl (fun ls hl => ?_)
          refine lv_goto (tgt := 12) hx hb (dk DX2_readBits 25 rfl) (by decide) ?_
          exact ih9 x16 x17 m13 _ _ ls (lv_sub hl [2, 1, 0] rfl) hR hF
  exact L12 1000000 x4 (0 : Int32) m1 _ _ ls (lv_sub hl [2, 1, 0] rfl) hR hF
set_option maxHeartbeats 4000000 in
set_option maxRecDepth 100000 in
theorem C_Tx_mustTakeG (l : Launch) (hl0 : l.stackTraces = false) (G : GG) (tx1 : String) (m0 : Mem) (htx_tx1 : tx1 ∈ strL.map (fun q => q.2.2)) (v : Unit) (m' : Mem) (hF : F_Tx_mustTakeG tx1 m0 = some (v, m')) : Ct l G mr0 N0 yX9_mustTake cX9_mustTake 2 none 10 [.ref (G.2.1 + 46), .ref (G.2.2.2.2.2.2 tx1)] m0 none m' := by
  refine Ct_of hl0 (by decide) (Nat.le_of_ble_eq_true rfl) ?_
  intro p e s mid args below meth c ls C hrt hl hR
  have hx := C.1.1
  have hb := C.1.2.1
  have hl : lv_has ls 2 [(0, .ref (G.2.1 + 46)), (1, .ref (G.2.2.2.2.2.2 tx1))] := hl
  unfold F_Tx_mustTakeG at hF
  refine lv_aload_n hx hb (dk DX9_mustTake 0 rfl) rfl (lv_at hl 0 rfl) ?_
  refine lv_aload_n hx hb (dk DX9_mustTake 1 rfl) rfl (lv_at hl 1 rfl) ?_
  obtain ⟨z3, m1, hz2, hF⟩ := bnd_ex hF
  refine r_callVi (As := [.ref (G.2.2.2.2.2.2 tx1)]) (rest := []) C hR (C_Tx_takesWordG l hl0 G tx1 m0 htx_tx1 _ _ hz2) (by decide) (by decide) ob46 rfl wX9_82_2 rfl rfl (Nat.le_of_ble_eq_true rfl) hl.1 ⟨Nat.zero_le _, Nat.zero_le _⟩ (dk DX9_mustTake 2 rfl) (fun H locs hR => ?_)
  refine z_ifne (tgt := 12) hx hb (dk DX9_mustTake 3 rfl) (by decide) (fun c5 => ?_) (fun c5 => ?_)
  · have hF := if_t c5 hF
    cases hF
    exact r_vret C hrt hR (dk DX9_mustTake 6 rfl)
  · have hF := if_f c5 hF
    refine lv_aload_n hx hb (dk DX9_mustTake 4 rfl) rfl (lv_at hl 0 rfl) ?_
    obtain ⟨u6, m4, hz5, hF⟩ := bnd_ex hF
    refine r_callVv (As := []) (rest := []) C hR (C_Tx_setWrongG l hl0 G m1 _ _ hz5) (by decide) (by decide) ob46 rfl wX9_55_2 rfl rfl (Nat.le_of_ble_eq_true rfl) hl.1 ⟨Nat.zero_le _, Nat.zero_le _⟩ (dk DX9_mustTake 5 rfl) (fun H locs hR => ?_)
    cases hF
    exact r_vret C hrt hR (dk DX9_mustTake 6 rfl)
set_option maxHeartbeats 4000000 in
set_option maxRecDepth 100000 in
theorem C_GT_readSlot (l : Launch) (hl0 : l.stackTraces = false) (G : GG) (m0 : Mem) (v : Unit) (m' : Mem) (hF : F_GT_readSlot m0 = some (v, m')) : Ct l G mr0 N0 yX2_readSlot cX2_readSlot 5 none 11 [.ref (G.2.1 + 46)] m0 none m' := by
  refine Ct_of hl0 (by decide) (Nat.le_of_ble_eq_true rfl) ?_
  intro p e s mid args below meth c ls C hrt hl hR
  have hx := C.1.1
  have hb := C.1.2.1
  have hl : lv_has ls 5 [(0, .ref (G.2.1 + 46))] := hl
  unfold F_GT_readSlot at hF
  refine lv_aload_n hx hb (dk DX2_readSlot 0 rfl) rfl (lv_at hl 0 rfl) ?_
  refine lv_iconst (v := (0 : Int32)) hx hb (dk DX2_readSlot 1 rfl) (by decide) ?_
  refine lv_iconst (v := (3 : Int32)) hx hb (dk DX2_readSlot 2 rfl) (by decide) ?_
  obtain ⟨x3, m1, hz2, hF⟩ := bnd_ex hF
  refine r_callUi (As := [.int (0 : Int32), .int (3 : Int32)]) (rest := []) C hR (C_Tx_numberG l hl0 G (0 : Int32) (3 : Int32) m0 _ _ hz2) (by decide) (by decide) ob46 rfl wX2_39_2 rfl rfl (Nat.le_of_ble_eq_true rfl) hl.1 ⟨Nat.zero_le _, Nat.zero_le _⟩ (dk DX2_readSlot 3 rfl) (fun H locs hR => ?_)
  refine lv_istore_n (lv' := [(1, .int x3), (0, .ref (G.2.1 + 46))]) hx hb (dk DX2_readSlot 4 rfl) rfl hl (by decide) rfl (fun ls hl => ?_)
  refine lv_aload_n hx hb (dk DX2_readSlot 5 rfl) rfl (lv_at hl 1 rfl) ?_
  refine lv_iconst (v := (0 : Int32)) hx hb (dk DX2_readSlot 6 rfl) (by decide) ?_
  refine lv_iconst (v := (3 : Int32)) hx hb (dk DX2_readSlot 7 rfl) (by decide) ?_
  obtain ⟨x6, m4, hz5, hF⟩ := bnd_ex hF
  refine r_callUi (As := [.int (0 : Int32), .int (3 : Int32)]) (rest := []) C hR (C_Tx_numberG l hl0 G (0 : Int32) (3 : Int32) m1 _ _ hz5) (by decide) (by decide) ob46 rfl wX2_39_2 rfl rfl (Nat.le_of_ble_eq_true rfl) hl.1 ⟨Nat.zero_le _, Nat.zero_le _⟩ (dk DX2_readSlot 8 rfl) (fun H locs hR => ?_)
  refine lv_istore_n (lv' := [(2, .int x6), (1, .int x3), (0, .ref (G.2.1 + 46))]) hx hb (dk DX2_readSlot 9 rfl) rfl hl (by decide) rfl (fun ls hl => ?_)
  refine lv_aload_n hx hb (dk DX2_readSlot 10 rfl) rfl (lv_at hl 2 rfl) ?_
  refine r_lds C (strm_X2_87) (dk DX2_readSlot 11 rfl) ?_
  obtain ⟨u9, m7, hz8, hF⟩ := bnd_ex hF
  refine r_callUv (As := [.ref (G.2.2.2.2.2.2 ("runs"))]) (rest := []) C hR (C_Tx_mustTakeG l hl0 G ("runs") m4 txm_5 _ _ hz8) (by decide) (by decide) ob46 rfl wX2_81_2 rfl rfl (Nat.le_of_ble_eq_true rfl) hl.1 ⟨Nat.zero_le _, Nat.zero_le _⟩ (dk DX2_readSlot 12 rfl) (fun H locs hR => ?_)
  refine lv_aload_n hx hb (dk DX2_readSlot 13 rfl) rfl (lv_at hl 2 rfl) ?_
  refine lv_iconst (v := (0 : Int32)) hx hb (dk DX2_readSlot 14 rfl) (by decide) ?_
  refine lv_bipush (v := (9 : Int32)) hx hb (dk DX2_readSlot 15 rfl) (by decide) ?_
  obtain ⟨x12, m10, hz11, hF⟩ := bnd_ex hF
  refine r_callUi (As := [.int (0 : Int32), .int (9 : Int32)]) (rest := []) C hR (C_Tx_numberG l hl0 G (0 : Int32) (9 : Int32) m7 _ _ hz11) (by decide) (by decide) ob46 rfl wX2_39_2 rfl rfl (Nat.le_of_ble_eq_true rfl) hl.1 ⟨Nat.zero_le _, Nat.zero_le _⟩ (dk DX2_readSlot 16 rfl) (fun H locs hR => ?_)
  refine lv_istore_n (lv' := [(3, .int x12), (2, .int x6), (1, .int x3), (0, .ref (G.2.1 + 46))]) hx hb (dk DX2_readSlot 17 rfl) rfl hl (by decide) rfl (fun ls hl => ?_)
  refine lv_aload_n hx hb (dk DX2_readSlot 18 rfl) rfl (lv_at hl 3 rfl) ?_
  refine r_lds C (strm_X2_89) (dk DX2_readSlot 19 rfl) ?_
  obtain ⟨u15, m13, hz14, hF⟩ := bnd_ex hF
  refine r_callUv (As := [.ref (G.2.2.2.2.2.2 ("outs"))]) (rest := []) C hR (C_Tx_mustTakeG l hl0 G ("outs") m10 txm_6 _ _ hz14) (by decide) (by decide) ob46 rfl wX2_81_2 rfl rfl (Nat.le_of_ble_eq_true rfl) hl.1 ⟨Nat.zero_le _, Nat.zero_le _⟩ (dk DX2_readSlot 20 rfl) (fun H locs hR => ?_)
  refine lv_aload_n hx hb (dk DX2_readSlot 21 rfl) rfl (lv_at hl 3 rfl) ?_
  refine lv_iconst (v := (0 : Int32)) hx hb (dk DX2_readSlot 22 rfl) (by decide) ?_
  refine lv_bipush (v := (9 : Int32)) hx hb (dk DX2_readSlot 23 rfl) (by decide) ?_
  obtain ⟨x18, m16, hz17, hF⟩ := bnd_ex hF
  refine r_callUi (As := [.int (0 : Int32), .int (9 : Int32)]) (rest := []) C hR (C_Tx_numberG l hl0 G (0 : Int32) (9 : Int32) m13 _ _ hz17) (by decide) (by decide) ob46 rfl wX2_39_2 rfl rfl (Nat.le_of_ble_eq_true rfl) hl.1 ⟨Nat.zero_le _, Nat.zero_le _⟩ (dk DX2_readSlot 24 rfl) (fun H locs hR => ?_)
  refine lv_istore (lv' := [(4, .int x18), (3, .int x12), (2, .int x6), (1, .int x3), (0, .ref (G.2.1 + 46))]) hx hb (dk DX2_readSlot 25 rfl) hl (by decide) rfl (fun ls hl => ?_)
  refine lv_aload_n hx hb (dk DX2_readSlot 26 rfl) rfl (lv_at hl 4 rfl) ?_
  refine lv_iconst (v := (2 : Int32)) hx hb (dk DX2_readSlot 27 rfl) (by decide) ?_
  refine lv_iload_n hx hb (dk DX2_readSlot 28 rfl) rfl (lv_at hl 3 rfl) ?_
  refine lv_iload_n hx hb (dk DX2_readSlot 29 rfl) rfl (lv_at hl 2 rfl) ?_
  refine lv_iload_n hx hb (dk DX2_readSlot 30 rfl) rfl (lv_at hl 1 rfl) ?_
  refine lv_iload hx hb (dk DX2_readSlot 31 rfl) (lv_at hl 0 rfl) ?_
  obtain ⟨u21, m19, hz20, hF⟩ := bnd_ex hF
  refine r_callVv (As := [.int (2 : Int32), .int x3, .int x6, .int x12, .int x18]) (rest := []) C hR (C_GT_keep l hl0 G (2 : Int32) x3 x6 x12 x18 m16 _ _ hz20) (by decide) (by decide) ob46 rfl wX2_43 rfl rfl (Nat.le_of_ble_eq_true rfl) hl.1 ⟨Nat.zero_le _, Nat.zero_le _⟩ (dk DX2_readSlot 32 rfl) (fun H locs hR => ?_)
  cases hF
  exact r_vret C hrt hR (dk DX2_readSlot 33 rfl)
set_option maxHeartbeats 4000000 in
set_option maxRecDepth 100000 in
theorem C_GT_readSide (l : Launch) (hl0 : l.stackTraces = false) (G : GG) (m0 : Mem) (v : Unit) (m' : Mem) (hF : F_GT_readSide m0 = some (v, m')) : Ct l G mr0 N0 yX2_readSide cX2_readSide 4 none 11 [.ref (G.2.1 + 46)] m0 none m' := by
  refine Ct_of hl0 (by decide) (Nat.le_of_ble_eq_true rfl) ?_
  intro p e s mid args below meth c ls C hrt hl hR
  have hx := C.1.1
  have hb := C.1.2.1
  have hl : lv_has ls 4 [(0, .ref (G.2.1 + 46))] := hl
  unfold F_GT_readSide at hF
  refine lv_aload_n hx hb (dk DX2_readSide 0 rfl) rfl (lv_at hl 0 rfl) ?_
  refine lv_iconst (v := (0 : Int32)) hx hb (dk DX2_readSide 1 rfl) (by decide) ?_
  refine lv_iconst (v := (1 : Int32)) hx hb (dk DX2_readSide 2 rfl) (by decide) ?_
  obtain ⟨x3, m1, hz2, hF⟩ := bnd_ex hF
  refine r_callUi (As := [.int (0 : Int32), .int (1 : Int32)]) (rest := []) C hR (C_Tx_numberG l hl0 G (0 : Int32) (1 : Int32) m0 _ _ hz2) (by decide) (by decide) ob46 rfl wX2_39_2 rfl rfl (Nat.le_of_ble_eq_true rfl) hl.1 ⟨Nat.zero_le _, Nat.zero_le _⟩ (dk DX2_readSide 3 rfl) (fun H locs hR => ?_)
  refine lv_istore_n (lv' := [(1, .int x3), (0, .ref (G.2.1 + 46))]) hx hb (dk DX2_readSide 4 rfl) rfl hl (by decide) rfl (fun ls hl => ?_)
  refine lv_aload_n hx hb (dk DX2_readSide 5 rfl) rfl (lv_at hl 1 rfl) ?_
  refine r_lds C (strm_X2_79) (dk DX2_readSide 6 rfl) ?_
  obtain ⟨u6, m4, hz5, hF⟩ := bnd_ex hF
  refine r_callUv (As := [.ref (G.2.2.2.2.2.2 ("bat"))]) (rest := []) C hR (C_Tx_mustTakeG l hl0 G ("bat") m1 txm_2 _ _ hz5) (by decide) (by decide) ob46 rfl wX2_81_2 rfl rfl (Nat.le_of_ble_eq_true rfl) hl.1 ⟨Nat.zero_le _, Nat.zero_le _⟩ (dk DX2_readSide 7 rfl) (fun H locs hR => ?_)
  refine lv_aload_n hx hb (dk DX2_readSide 8 rfl) rfl (lv_at hl 1 rfl) ?_
  refine lv_iconst (v := (0 : Int32)) hx hb (dk DX2_readSide 9 rfl) (by decide) ?_
  refine lv_bipush (v := (9 : Int32)) hx hb (dk DX2_readSide 10 rfl) (by decide) ?_
  obtain ⟨x9, m7, hz8, hF⟩ := bnd_ex hF
  refine r_callUi (As := [.int (0 : Int32), .int (9 : Int32)]) (rest := []) C hR (C_Tx_numberG l hl0 G (0 : Int32) (9 : Int32) m4 _ _ hz8) (by decide) (by decide) ob46 rfl wX2_39_2 rfl rfl (Nat.le_of_ble_eq_true rfl) hl.1 ⟨Nat.zero_le _, Nat.zero_le _⟩ (dk DX2_readSide 11 rfl) (fun H locs hR => ?_)
  refine lv_istore_n (lv' := [(2, .int x9), (1, .int x3), (0, .ref (G.2.1 + 46))]) hx hb (dk DX2_readSide 12 rfl) rfl hl (by decide) rfl (fun ls hl => ?_)
  refine lv_aload_n hx hb (dk DX2_readSide 13 rfl) rfl (lv_at hl 2 rfl) ?_
  refine r_lds C (strm_X2_85) (dk DX2_readSide 14 rfl) ?_
  obtain ⟨u12, m10, hz11, hF⟩ := bnd_ex hF
  refine r_callUv (As := [.ref (G.2.2.2.2.2.2 ("bowl"))]) (rest := []) C hR (C_Tx_mustTakeG l hl0 G ("bowl") m7 txm_3 _ _ hz11) (by decide) (by decide) ob46 rfl wX2_81_2 rfl rfl (Nat.le_of_ble_eq_true rfl) hl.1 ⟨Nat.zero_le _, Nat.zero_le _⟩ (dk DX2_readSide 15 rfl) (fun H locs hR => ?_)
  refine lv_aload_n hx hb (dk DX2_readSide 16 rfl) rfl (lv_at hl 2 rfl) ?_
  refine lv_iconst (v := (0 : Int32)) hx hb (dk DX2_readSide 17 rfl) (by decide) ?_
  refine lv_bipush (v := (9 : Int32)) hx hb (dk DX2_readSide 18 rfl) (by decide) ?_
  obtain ⟨x15, m13, hz14, hF⟩ := bnd_ex hF
  refine r_callUi (As := [.int (0 : Int32), .int (9 : Int32)]) (rest := []) C hR (C_Tx_numberG l hl0 G (0 : Int32) (9 : Int32) m10 _ _ hz14) (by decide) (by decide) ob46 rfl wX2_39_2 rfl rfl (Nat.le_of_ble_eq_true rfl) hl.1 ⟨Nat.zero_le _, Nat.zero_le _⟩ (dk DX2_readSide 19 rfl) (fun H locs hR => ?_)
  refine lv_istore_n (lv' := [(3, .int x15), (2, .int x9), (1, .int x3), (0, .ref (G.2.1 + 46))]) hx hb (dk DX2_readSide 20 rfl) rfl hl (by decide) rfl (fun ls hl => ?_)
  refine lv_aload_n hx hb (dk DX2_readSide 21 rfl) rfl (lv_at hl 3 rfl) ?_
  refine lv_iconst (v := (1 : Int32)) hx hb (dk DX2_readSide 22 rfl) (by decide) ?_
  refine lv_iload_n hx hb (dk DX2_readSide 23 rfl) rfl (lv_at hl 2 rfl) ?_
  refine lv_iload_n hx hb (dk DX2_readSide 24 rfl) rfl (lv_at hl 1 rfl) ?_
  refine lv_iload_n hx hb (dk DX2_readSide 25 rfl) rfl (lv_at hl 0 rfl) ?_
  refine lv_iconst (v := (0 : Int32)) hx hb (dk DX2_readSide 26 rfl) (by decide) ?_
  obtain ⟨u18, m16, hz17, hF⟩ := bnd_ex hF
  refine r_callVv (As := [.int (1 : Int32), .int x3, .int x9, .int x15, .int (0 : Int32)]) (rest := []) C hR (C_GT_keep l hl0 G (1 : Int32) x3 x9 x15 (0 : Int32) m13 _ _ hz17) (by decide) (by decide) ob46 rfl wX2_43 rfl rfl (Nat.le_of_ble_eq_true rfl) hl.1 ⟨Nat.zero_le _, Nat.zero_le _⟩ (dk DX2_readSide 27 rfl) (fun H locs hR => ?_)
  cases hF
  exact r_vret C hrt hR (dk DX2_readSide 28 rfl)
set_option maxHeartbeats 4000000 in
set_option maxRecDepth 100000 in
theorem C_GT_readLine (l : Launch) (hl0 : l.stackTraces = false) (G : GG) (m0 : Mem) (v : Unit) (m' : Mem) (hF : F_GT_readLine m0 = some (v, m')) : Ct l G mr0 N0 yX2_readLine cX2_readLine 1 none 12 [.ref (G.2.1 + 46)] m0 none m' := by
  refine Ct_of hl0 (by decide) (Nat.le_of_ble_eq_true rfl) ?_
  intro p e s mid args below meth c ls C hrt hl hR
  have hx := C.1.1
  have hb := C.1.2.1
  have hl : lv_has ls 1 [(0, .ref (G.2.1 + 46))] := hl
  unfold F_GT_readLine at hF
  refine lv_aload_n hx hb (dk DX2_readLine 0 rfl) rfl (lv_at hl 0 rfl) ?_
  refine gX2_22 C hR ob46 (dk DX2_readLine 1 rfl) ?_
  obtain ⟨k34_1, ek34_1, hF⟩ := lt_ex hF
  have J34 : ∀ (m1 : Mem) (H : Heap) (locs : List Loc) (ls : Array Slot), lv_has ls 1 [(0, .ref (G.2.1 + 46))] → Rp G mr0 N0 m1 s H locs → k34_1  m1 = some (v, m') → W p l e (rmD 12) s mid args below meth c H locs 0 0 (MQ below (QR G mr0 N0 none m') args s 0 0 (fun q => G.2.1 ≤ q)) (F0 mid 34 ls []) := by
    intro  m1 H locs ls hl hR hF
    rw [ek34_1] at hF
    refine lv_aload_n hx hb (dk DX2_readLine 18 rfl) rfl (lv_at hl 0 rfl) ?_
    refine r_lds C (strm_X2_47) (dk DX2_readLine 19 rfl) ?_
    obtain ⟨z4, m2, hz3, hF⟩ := bnd_ex hF
    refine r_callUi (As := [.ref (G.2.2.2.2.2.2 ("side"))]) (rest := []) C hR (C_Tx_takesWordG l hl0 G ("side") m1 txm_1 _ _ hz3) (by decide) (by decide) ob46 rfl wX2_35_2 rfl rfl (Nat.le_of_ble_eq_true rfl) hl.1 ⟨Nat.zero_le _, Nat.zero_le _⟩ (dk DX2_readLine 20 rfl) (fun H locs hR => ?_)
    refine z_ifeq (tgt := 50) hx hb (dk DX2_readLine 21 rfl) (by decide) (fun c40 => ?_) (fun c40 => ?_)
    · have hF := if_f c40 hF
      refine lv_aload_n hx hb (dk DX2_readLine 25 rfl) rfl (lv_at hl 0 rfl) ?_
      refine r_lds C (strm_X2_52) (dk DX2_readLine 26 rfl) ?_
      obtain ⟨z7, m5, hz6, hF⟩ := bnd_ex hF
      refine r_callUi (As := [.ref (G.2.2.2.2.2.2 ("slot"))]) (rest := []) C hR (C_Tx_takesWordG l hl0 G ("slot") m2 txm_4 _ _ hz6) (by decide) (by decide) ob46 rfl wX2_35_2 rfl rfl (Nat.le_of_ble_eq_true rfl) hl.1 ⟨Nat.zero_le _, Nat.zero_le _⟩ (dk DX2_readLine 27 rfl) (fun H locs hR => ?_)
      refine z_ifeq (tgt := 66) hx hb (dk DX2_readLine 28 rfl) (by decide) (fun c56 => ?_) (fun c56 => ?_)
      · have hF := if_f c56 hF
        refine lv_aload_n hx hb (dk DX2_readLine 32 rfl) rfl (lv_at hl 0 rfl) ?_
        refine r_lds C (strm_X2_57) (dk DX2_readLine 33 rfl) ?_
        obtain ⟨z10, m8, hz9, hF⟩ := bnd_ex hF
        refine r_callUi (As := [.ref (G.2.2.2.2.2.2 ("cloud"))]) (rest := []) C hR (C_Tx_takesWordG l hl0 G ("cloud") m5 txm_7 _ _ hz9) (by decide) (by decide) ob46 rfl wX2_35_2 rfl rfl (Nat.le_of_ble_eq_true rfl) hl.1 ⟨Nat.zero_le _, Nat.zero_le _⟩ (dk DX2_readLine 34 rfl) (fun H locs hR => ?_)
        refine z_ifeq (tgt := 90) hx hb (dk DX2_readLine 35 rfl) (by decide) (fun c72 => ?_) (fun c72 => ?_)
        · have hF := if_f c72 hF
          refine lv_aload_n hx hb (dk DX2_readLine 45 rfl) rfl (lv_at hl 0 rfl) ?_
          refine r_lds C (strm_X2_63) (dk DX2_readLine 46 rfl) ?_
          obtain ⟨z13, m11, hz12, hF⟩ := bnd_ex hF
          refine r_callUi (As := [.ref (G.2.2.2.2.2.2 ("tide"))]) (rest := []) C hR (C_Tx_takesWordG l hl0 G ("tide") m8 txm_8 _ _ hz12) (by decide) (by decide) ob46 rfl wX2_35_2 rfl rfl (Nat.le_of_ble_eq_true rfl) hl.1 ⟨Nat.zero_le _, Nat.zero_le _⟩ (dk DX2_readLine 47 rfl) (fun H locs hR => ?_)
          refine z_ifeq (tgt := 114) hx hb (dk DX2_readLine 48 rfl) (by decide) (fun c96 => ?_) (fun c96 => ?_)
          · have hF := if_f c96 hF
            refine lv_aload_n hx hb (dk DX2_readLine 58 rfl) rfl (lv_at hl 0 rfl) ?_
            refine r_lds C (strm_X2_65) (dk DX2_readLine 59 rfl) ?_
            obtain ⟨z16, m14, hz15, hF⟩ := bnd_ex hF
            refine r_callUi (As := [.ref (G.2.2.2.2.2.2 ("rain"))]) (rest := []) C hR (C_Tx_takesWordG l hl0 G ("rain") m11 txm_9 _ _ hz15) (by decide) (by decide) ob46 rfl wX2_35_2 rfl rfl (Nat.le_of_ble_eq_true rfl) hl.1 ⟨Nat.zero_le _, Nat.zero_le _⟩ (dk DX2_readLine 60 rfl) (fun H locs hR => ?_)
            refine z_ifeq (tgt := 138) hx hb (dk DX2_readLine 61 rfl) (by decide) (fun c120 => ?_) (fun c120 => ?_)
            · have hF := if_f c120 hF
              refine lv_aload_n hx hb (dk DX2_readLine 71 rfl) rfl (lv_at hl 0 rfl) ?_
              refine r_lds C (strm_X2_67) (dk DX2_readLine 72 rfl) ?_
              obtain ⟨z19, m17, hz18, hF⟩ := bnd_ex hF
              refine r_callUi (As := [.ref (G.2.2.2.2.2.2 ("margin"))]) (rest := []) C hR (C_Tx_takesWordG l hl0 G ("margin") m14 txm_10 _ _ hz18) (by decide) (by decide) ob46 rfl wX2_35_2 rfl rfl (Nat.le_of_ble_eq_true rfl) hl.1 ⟨Nat.zero_le _, Nat.zero_le _⟩ (dk DX2_readLine 73 rfl) (fun H locs hR => ?_)
              refine z_ifeq (tgt := 166) hx hb (dk DX2_readLine 74 rfl) (by decide) (fun c144 => ?_) (fun c144 => ?_)
              · have hF := if_f c144 hF
                refine lv_aload_n hx hb (dk DX2_readLine 86 rfl) rfl (lv_at hl 0 rfl) ?_
                refine r_lds C (strm_X2_69) (dk DX2_readLine 87 rfl) ?_
                obtain ⟨z22, m20, hz21, hF⟩ := bnd_ex hF
                refine r_callUi (As := [.ref (G.2.2.2.2.2.2 ("drawworth"))]) (rest := []) C hR (C_Tx_takesWordG l hl0 G ("drawworth") m17 txm_11 _ _ hz21) (by decide) (by decide) ob46 rfl wX2_35_2 rfl rfl (Nat.le_of_ble_eq_true rfl) hl.1 ⟨Nat.zero_le _, Nat.zero_le _⟩ (dk DX2_readLine 88 rfl) (fun H locs hR => ?_)
                refine z_ifeq (tgt := 194) hx hb (dk DX2_readLine 89 rfl) (by decide) (fun c172 => ?_) (fun c172 => ?_)
                · have hF := if_f c172 hF
                  refine lv_aload_n hx hb (dk DX2_readLine 101 rfl) rfl (lv_at hl 0 rfl) ?_
                  refine gX2_19 C hR ob46 (dk DX2_readLine 102 rfl) ?_
                  refine lv_bipush (v := (60 : Int32)) hx hb (dk DX2_readLine 103 rfl) (by decide) ?_
                  obtain ⟨k219_23, ek219_23, hF⟩ := lt_ex hF
                  have J219 : ∀ (m23 : Mem) (H : Heap) (locs : List Loc) (ls : Array Slot), lv_has ls 1 [(0, .ref (G.2.1 + 46))] → Rp G mr0 N0 m23 s H locs → k219_23  m23 = some (v, m') → W p l e (rmD 12) s mid args below meth c H locs 0 0 (MQ below (QR G mr0 N0 none m') args s 0 0 (fun q => G.2.1 ≤ q)) (F0 mid 219 ls []) := by
                    intro  m23 H locs ls hl hR hF
                    rw [ek219_23] at hF
                    refine lv_aload_n hx hb (dk DX2_readLine 112 rfl) rfl (lv_at hl 0 rfl) ?_
                    obtain ⟨u26, m24, hz25, hF⟩ := bnd_ex hF
                    refine r_callUv (As := []) (rest := []) C hR (C_Tx_setWrongG l hl0 G m23 _ _ hz25) (by decide) (by decide) ob46 rfl wX2_76_2 rfl rfl (Nat.le_of_ble_eq_true rfl) hl.1 ⟨Nat.zero_le _, Nat.zero_le _⟩ (dk DX2_readLine 113 rfl) (fun H locs hR => ?_)
                    cases hF
                    exact r_vret C hrt hR (dk DX2_readLine 114 rfl)
                  refine lv_icmp_ge (tgt := 219) hx hb (dk DX2_readLine 104 rfl) (by decide) (fun c200 => ?_) (fun c200 => ?_)
                  · have hF := if_t c200 hF
                    exact J219 m20 _ _ ls (lv_sub hl [0] rfl) hR hF
                  · have hF := if_f c200 hF
                    refine lv_aload_n hx hb (dk DX2_readLine 105 rfl) rfl (lv_at hl 0 rfl) ?_
                    refine r_lds C (strm_X2_71) (dk DX2_readLine 106 rfl) ?_
                    obtain ⟨z29, m27, hz28, hF⟩ := bnd_ex hF
                    refine r_callUi (As := [.ref (G.2.2.2.2.2.2 ("book"))]) (rest := []) C hR (C_Tx_takesWordG l hl0 G ("book") m20 txm_12 _ _ hz28) (by decide) (by decide) ob46 rfl wX2_35_2 rfl rfl (Nat.le_of_ble_eq_true rfl) hl.1 ⟨Nat.zero_le _, Nat.zero_le _⟩ (dk DX2_readLine 107 rfl) (fun H locs hR => ?_)
                    refine z_ifeq (tgt := 219) hx hb (dk DX2_readLine 108 rfl) (by decide) (fun c209 => ?_) (fun c209 => ?_)
                    · have hF := if_f c209 hF
                      exact J219 m27 _ _ ls (lv_sub hl [0] rfl) hR hF
                    · have hF := if_t c209 hF
                      refine lv_aload_n hx hb (dk DX2_readLine 109 rfl) rfl (lv_at hl 0 rfl) ?_
                      obtain ⟨u32, m30, hz31, hF⟩ := bnd_ex hF
                      refine r_callVv (As := []) (rest := []) C hR (C_GT_readBook l hl0 G m27 _ _ hz31) (by decide) (by decide) ob46 rfl wX2_73 rfl rfl (Nat.le_of_ble_eq_true rfl) hl.1 ⟨Nat.zero_le _, Nat.zero_le _⟩ (dk DX2_readLine 110 rfl) (fun H locs hR => ?_)
                      refine lv_goto (tgt := 223) hx hb (dk DX2_readLine 111 rfl) (by decide) ?_
                      cases hF
                      exact r_vret C hrt hR (dk DX2_readLine 114 rfl)
                · have hF := if_t c172 hF
                  refine lv_aload_n hx hb (dk DX2_readLine 90 rfl) rfl (lv_at hl 0 rfl) ?_
                  refine lv_bipush (v := (7 : Int32)) hx hb (dk DX2_readLine 91 rfl) (by decide) ?_
                  refine lv_aload_n hx hb (dk DX2_readLine 92 rfl) rfl (lv_at hl 0 rfl) ?_
                  refine lv_iconst (v := (0 : Int32)) hx hb (dk DX2_readLine 93 rfl) (by decide) ?_
                  refine lv_bipush (v := (100 : Int32)) hx hb (dk DX2_readLine 94 rfl) (by decide) ?_
                  obtain ⟨x35, m33, hz34, hF⟩ := bnd_ex hF
                  refine r_callUi (As := [.int (0 : Int32), .int (100 : Int32)]) (rest := [.int (7 : Int32), .ref (G.2.1 + 46)]) C hR (C_Tx_numberG l hl0 G (0 : Int32) (100 : Int32) m20 _ _ hz34) (by decide) (by decide) ob46 rfl wX2_39_2 rfl rfl (Nat.le_of_ble_eq_true rfl) hl.1 ⟨Nat.zero_le _, Nat.zero_le _⟩ (dk DX2_readLine 95 rfl) (fun H locs hR => ?_)
                  refine lv_iconst (v := (0 : Int32)) hx hb (dk DX2_readLine 96 rfl) (by decide) ?_
                  refine lv_iconst (v := (0 : Int32)) hx hb (dk DX2_readLine 97 rfl) (by decide) ?_
                  refine lv_iconst (v := (0 : Int32)) hx hb (dk DX2_readLine 98 rfl) (by decide) ?_
                  obtain ⟨u38, m36, hz37, hF⟩ := bnd_ex hF
                  refine r_callVv (As := [.int (7 : Int32), .int x35, .int (0 : Int32), .int (0 : Int32), .int (0 : Int32)]) (rest := []) C hR (C_GT_keep l hl0 G (7 : Int32) x35 (0 : Int32) (0 : Int32) (0 : Int32) m33 _ _ hz37) (by decide) (by decide) ob46 rfl wX2_43 rfl rfl (Nat.le_of_ble_eq_true rfl) hl.1 ⟨Nat.zero_le _, Nat.zero_le _⟩ (dk DX2_readLine 99 rfl) (fun H locs hR => ?_)
                  refine lv_goto (tgt := 223) hx hb (dk DX2_readLine 100 rfl) (by decide) ?_
                  cases hF
                  exact r_vret C hrt hR (dk DX2_readLine 114 rfl)
              · have hF := if_t c144 hF
                refine lv_aload_n hx hb (dk DX2_readLine 75 rfl) rfl (lv_at hl 0 rfl) ?_
                refine lv_bipush (v := (6 : Int32)) hx hb (dk DX2_readLine 76 rfl) (by decide) ?_
                refine lv_aload_n hx hb (dk DX2_readLine 77 rfl) rfl (lv_at hl 0 rfl) ?_
                refine lv_iconst (v := (0 : Int32)) hx hb (dk DX2_readLine 78 rfl) (by decide) ?_
                refine lv_bipush (v := (99 : Int32)) hx hb (dk DX2_readLine 79 rfl) (by decide) ?_
                obtain ⟨x41, m39, hz40, hF⟩ := bnd_ex hF
                refine r_callUi (As := [.int (0 : Int32), .int (99 : Int32)]) (rest := [.int (6 : Int32), .ref (G.2.1 + 46)]) C hR (C_Tx_numberG l hl0 G (0 : Int32) (99 : Int32) m17 _ _ hz40) (by decide) (by decide) ob46 rfl wX2_39_2 rfl rfl (Nat.le_of_ble_eq_true rfl) hl.1 ⟨Nat.zero_le _, Nat.zero_le _⟩ (dk DX2_readLine 80 rfl) (fun H locs hR => ?_)
                refine lv_iconst (v := (0 : Int32)) hx hb (dk DX2_readLine 81 rfl) (by decide) ?_
                refine lv_iconst (v := (0 : Int32)) hx hb (dk DX2_readLine 82 rfl) (by decide) ?_
                refine lv_iconst (v := (0 : Int32)) hx hb (dk DX2_readLine 83 rfl) (by decide) ?_
                obtain ⟨u44, m42, hz43, hF⟩ := bnd_ex hF
                refine r_callVv (As := [.int (6 : Int32), .int x41, .int (0 : Int32), .int (0 : Int32), .int (0 : Int32)]) (rest := []) C hR (C_GT_keep l hl0 G (6 : Int32) x41 (0 : Int32) (0 : Int32) (0 : Int32) m39 _ _ hz43) (by decide) (by decide) ob46 rfl wX2_43 rfl rfl (Nat.le_of_ble_eq_true rfl) hl.1 ⟨Nat.zero_le _, Nat.zero_le _⟩ (dk DX2_readLine 84 rfl) (fun H locs hR => ?_)
                refine lv_goto (tgt := 223) hx hb (dk DX2_readLine 85 rfl) (by decide) ?_
                cases hF
                exact r_vret C hrt hR (dk DX2_readLine 114 rfl)
            · have hF := if_t c120 hF
              refine lv_aload_n hx hb (dk DX2_readLine 62 rfl) rfl (lv_at hl 0 rfl) ?_
              refine lv_iconst (v := (5 : Int32)) hx hb (dk DX2_readLine 63 rfl) (by decide) ?_
              refine lv_aload_n hx hb (dk DX2_readLine 64 rfl) rfl (lv_at hl 0 rfl) ?_
              obtain ⟨x47, m45, hz46, hF⟩ := bnd_ex hF
              refine r_callVi (As := []) (rest := [.int (5 : Int32), .ref (G.2.1 + 46)]) C hR (C_GT_readBits l hl0 G m14 _ _ hz46) (by decide) (by decide) ob46 rfl wX2_59 rfl rfl (Nat.le_of_ble_eq_true rfl) hl.1 ⟨Nat.zero_le _, Nat.zero_le _⟩ (dk DX2_readLine 65 rfl) (fun H locs hR => ?_)
              refine lv_iconst (v := (0 : Int32)) hx hb (dk DX2_readLine 66 rfl) (by decide) ?_
              refine lv_iconst (v := (0 : Int32)) hx hb (dk DX2_readLine 67 rfl) (by decide) ?_
              refine lv_iconst (v := (0 : Int32)) hx hb (dk DX2_readLine 68 rfl) (by decide) ?_
              obtain ⟨u50, m48, hz49, hF⟩ := bnd_ex hF
              refine r_callVv (As := [.int (5 : Int32), .int x47, .int (0 : Int32), .int (0 : Int32), .int (0 : Int32)]) (rest := []) C hR (C_GT_keep l hl0 G (5 : Int32) x47 (0 : Int32) (0 : Int32) (0 : Int32) m45 _ _ hz49) (by decide) (by decide) ob46 rfl wX2_43 rfl rfl (Nat.le_of_ble_eq_true rfl) hl.1 ⟨Nat.zero_le _, Nat.zero_le _⟩ (dk DX2_readLine 69 rfl) (fun H locs hR => ?_)
              refine lv_goto (tgt := 223) hx hb (dk DX2_readLine 70 rfl) (by decide) ?_
              cases hF
              exact r_vret C hrt hR (dk DX2_readLine 114 rfl)
          · have hF := if_t c96 hF
            refine lv_aload_n hx hb (dk DX2_readLine 49 rfl) rfl (lv_at hl 0 rfl) ?_
            refine lv_iconst (v := (4 : Int32)) hx hb (dk DX2_readLine 50 rfl) (by decide) ?_
            refine lv_aload_n hx hb (dk DX2_readLine 51 rfl) rfl (lv_at hl 0 rfl) ?_
            obtain ⟨x53, m51, hz52, hF⟩ := bnd_ex hF
            refine r_callVi (As := []) (rest := [.int (4 : Int32), .ref (G.2.1 + 46)]) C hR (C_GT_readBits l hl0 G m11 _ _ hz52) (by decide) (by decide) ob46 rfl wX2_59 rfl rfl (Nat.le_of_ble_eq_true rfl) hl.1 ⟨Nat.zero_le _, Nat.zero_le _⟩ (dk DX2_readLine 52 rfl) (fun H locs hR => ?_)
            refine lv_iconst (v := (0 : Int32)) hx hb (dk DX2_readLine 53 rfl) (by decide) ?_
            refine lv_iconst (v := (0 : Int32)) hx hb (dk DX2_readLine 54 rfl) (by decide) ?_
            refine lv_iconst (v := (0 : Int32)) hx hb (dk DX2_readLine 55 rfl) (by decide) ?_
            obtain ⟨u56, m54, hz55, hF⟩ := bnd_ex hF
            refine r_callVv (As := [.int (4 : Int32), .int x53, .int (0 : Int32), .int (0 : Int32), .int (0 : Int32)]) (rest := []) C hR (C_GT_keep l hl0 G (4 : Int32) x53 (0 : Int32) (0 : Int32) (0 : Int32) m51 _ _ hz55) (by decide) (by decide) ob46 rfl wX2_43 rfl rfl (Nat.le_of_ble_eq_true rfl) hl.1 ⟨Nat.zero_le _, Nat.zero_le _⟩ (dk DX2_readLine 56 rfl) (fun H locs hR => ?_)
            refine lv_goto (tgt := 223) hx hb (dk DX2_readLine 57 rfl) (by decide) ?_
            cases hF
            exact r_vret C hrt hR (dk DX2_readLine 114 rfl)
        · have hF := if_t c72 hF
          refine lv_aload_n hx hb (dk DX2_readLine 36 rfl) rfl (lv_at hl 0 rfl) ?_
          refine lv_iconst (v := (3 : Int32)) hx hb (dk DX2_readLine 37 rfl) (by decide) ?_
          refine lv_aload_n hx hb (dk DX2_readLine 38 rfl) rfl (lv_at hl 0 rfl) ?_
          obtain ⟨x59, m57, hz58, hF⟩ := bnd_ex hF
          refine r_callVi (As := []) (rest := [.int (3 : Int32), .ref (G.2.1 + 46)]) C hR (C_GT_readBits l hl0 G m8 _ _ hz58) (by decide) (by decide) ob46 rfl wX2_59 rfl rfl (Nat.le_of_ble_eq_true rfl) hl.1 ⟨Nat.zero_le _, Nat.zero_le _⟩ (dk DX2_readLine 39 rfl) (fun H locs hR => ?_)
          refine lv_iconst (v := (0 : Int32)) hx hb (dk DX2_readLine 40 rfl) (by decide) ?_
          refine lv_iconst (v := (0 : Int32)) hx hb (dk DX2_readLine 41 rfl) (by decide) ?_
          refine lv_iconst (v := (0 : Int32)) hx hb (dk DX2_readLine 42 rfl) (by decide) ?_
          obtain ⟨u62, m60, hz61, hF⟩ := bnd_ex hF
          refine r_callVv (As := [.int (3 : Int32), .int x59, .int (0 : Int32), .int (0 : Int32), .int (0 : Int32)]) (rest := []) C hR (C_GT_keep l hl0 G (3 : Int32) x59 (0 : Int32) (0 : Int32) (0 : Int32) m57 _ _ hz61) (by decide) (by decide) ob46 rfl wX2_43 rfl rfl (Nat.le_of_ble_eq_true rfl) hl.1 ⟨Nat.zero_le _, Nat.zero_le _⟩ (dk DX2_readLine 43 rfl) (fun H locs hR => ?_)
          refine lv_goto (tgt := 223) hx hb (dk DX2_readLine 44 rfl) (by decide) ?_
          cases hF
          exact r_vret C hrt hR (dk DX2_readLine 114 rfl)
      · have hF := if_t c56 hF
        refine lv_aload_n hx hb (dk DX2_readLine 29 rfl) rfl (lv_at hl 0 rfl) ?_
        obtain ⟨u65, m63, hz64, hF⟩ := bnd_ex hF
        refine r_callVv (As := []) (rest := []) C hR (C_GT_readSlot l hl0 G m5 _ _ hz64) (by decide) (by decide) ob46 rfl wX2_54 rfl rfl (Nat.le_of_ble_eq_true rfl) hl.1 ⟨Nat.zero_le _, Nat.zero_le _⟩ (dk DX2_readLine 30 rfl) (fun H locs hR => ?_)
        refine lv_goto (tgt := 223) hx hb (dk DX2_readLine 31 rfl) (by decide) ?_
        cases hF
        exact r_vret C hrt hR (dk DX2_readLine 114 rfl)
    · have hF := if_t c40 hF
      refine lv_aload_n hx hb (dk DX2_readLine 22 rfl) rfl (lv_at hl 0 rfl) ?_
      obtain ⟨u68, m66, hz67, hF⟩ := bnd_ex hF
      refine r_callVv (As := []) (rest := []) C hR (C_GT_readSide l hl0 G m2 _ _ hz67) (by decide) (by decide) ob46 rfl wX2_49 rfl rfl (Nat.le_of_ble_eq_true rfl) hl.1 ⟨Nat.zero_le _, Nat.zero_le _⟩ (dk DX2_readLine 23 rfl) (fun H locs hR => ?_)
      refine lv_goto (tgt := 223) hx hb (dk DX2_readLine 24 rfl) (by decide) ?_
      cases hF
      exact r_vret C hrt hR (dk DX2_readLine 114 rfl)
  refine z_ifeq (tgt := 34) hx hb (dk DX2_readLine 2 rfl) (by decide) (fun c4 => ?_) (fun c4 => ?_)
  · have hF := if_f c4 hF
    exact J34 m0 _ _ ls (lv_sub hl [0] rfl) hR hF
  · have hF := if_t c4 hF
    refine lv_aload_n hx hb (dk DX2_readLine 3 rfl) rfl (lv_at hl 0 rfl) ?_
    refine r_lds C (strm_X2_33) (dk DX2_readLine 4 rfl) ?_
    obtain ⟨z71, m69, hz70, hF⟩ := bnd_ex hF
    refine r_callUi (As := [.ref (G.2.2.2.2.2.2 ("sessions"))]) (rest := []) C hR (C_Tx_takesWordG l hl0 G ("sessions") m0 txm_0 _ _ hz70) (by decide) (by decide) ob46 rfl wX2_35_2 rfl rfl (Nat.le_of_ble_eq_true rfl) hl.1 ⟨Nat.zero_le _, Nat.zero_le _⟩ (dk DX2_readLine 5 rfl) (fun H locs hR => ?_)
    refine z_ifeq (tgt := 34) hx hb (dk DX2_readLine 6 rfl) (by decide) (fun c13 => ?_) (fun c13 => ?_)
    · have hF := if_f c13 hF
      exact J34 m69 _ _ ls (lv_sub hl [0] rfl) hR hF
    · have hF := if_t c13 hF
      refine lv_aload_n hx hb (dk DX2_readLine 7 rfl) rfl (lv_at hl 0 rfl) ?_
      refine lv_iconst (v := (0 : Int32)) hx hb (dk DX2_readLine 8 rfl) (by decide) ?_
      refine lv_aload_n hx hb (dk DX2_readLine 9 rfl) rfl (lv_at hl 0 rfl) ?_
      refine lv_iconst (v := (1 : Int32)) hx hb (dk DX2_readLine 10 rfl) (by decide) ?_
      refine lv_bipush (v := (9 : Int32)) hx hb (dk DX2_readLine 11 rfl) (by decide) ?_
      obtain ⟨x74, m72, hz73, hF⟩ := bnd_ex hF
      refine r_callUi (As := [.int (1 : Int32), .int (9 : Int32)]) (rest := [.int (0 : Int32), .ref (G.2.1 + 46)]) C hR (C_Tx_numberG l hl0 G (1 : Int32) (9 : Int32) m69 _ _ hz73) (by decide) (by decide) ob46 rfl wX2_39_2 rfl rfl (Nat.le_of_ble_eq_true rfl) hl.1 ⟨Nat.zero_le _, Nat.zero_le _⟩ (dk DX2_readLine 12 rfl) (fun H locs hR => ?_)
      refine lv_iconst (v := (0 : Int32)) hx hb (dk DX2_readLine 13 rfl) (by decide) ?_
      refine lv_iconst (v := (0 : Int32)) hx hb (dk DX2_readLine 14 rfl) (by decide) ?_
      refine lv_iconst (v := (0 : Int32)) hx hb (dk DX2_readLine 15 rfl) (by decide) ?_
      obtain ⟨u77, m75, hz76, hF⟩ := bnd_ex hF
      refine r_callVv (As := [.int (0 : Int32), .int x74, .int (0 : Int32), .int (0 : Int32), .int (0 : Int32)]) (rest := []) C hR (C_GT_keep l hl0 G (0 : Int32) x74 (0 : Int32) (0 : Int32) (0 : Int32) m72 _ _ hz76) (by decide) (by decide) ob46 rfl wX2_43 rfl rfl (Nat.le_of_ble_eq_true rfl) hl.1 ⟨Nat.zero_le _, Nat.zero_le _⟩ (dk DX2_readLine 16 rfl) (fun H locs hR => ?_)
      refine lv_goto (tgt := 223) hx hb (dk DX2_readLine 17 rfl) (by decide) ?_
      cases hF
      exact r_vret C hrt hR (dk DX2_readLine 114 rfl)
set_option maxHeartbeats 4000000 in
set_option maxRecDepth 100000 in
theorem C_Tx_takesSignG (l : Launch) (hl0 : l.stackTraces = false) (G : GG) (a1 : Int32) (m0 : Mem) (v : Bool) (m' : Mem) (hF : F_Tx_takesSignG a1 m0 = some (v, m')) : Ct l G mr0 N0 yX9_takesSign cX9_takesSign 2 (some .boolean) 2 [.ref (G.2.1 + 46), .int a1] m0 (some (.int (b2i v))) m' := by
  refine Ct_of hl0 (by decide) (Nat.le_of_ble_eq_true rfl) ?_
  intro p e s mid args below meth c ls C hrt hl hR
  have hx := C.1.1
  have hb := C.1.2.1
  have hl : lv_has ls 2 [(0, .ref (G.2.1 + 46)), (1, .int a1)] := hl
  unfold F_Tx_takesSignG at hF
  refine lv_aload_n hx hb (dk DX9_takesSign 0 rfl) rfl (lv_at hl 0 rfl) ?_
  refine lv_iconst (v := (2 : Int32)) hx hb (dk DX9_takesSign 1 rfl) (by decide) ?_
  obtain ⟨z3, m1, hz2, hF⟩ := bnd_ex hF
  refine r_callVi (As := [.int (2 : Int32)]) (rest := []) C hR (C_Tx_isAtG l hl0 G (2 : Int32) m0 _ _ hz2) (by decide) (by decide) ob46 rfl wX9_44_2 rfl rfl (Nat.le_of_ble_eq_true rfl) hl.1 ⟨Nat.zero_le _, Nat.zero_le _⟩ (dk DX9_takesSign 2 rfl) (fun H locs hR => ?_)
  refine z_ifeq (tgt := 25) hx hb (dk DX9_takesSign 3 rfl) (by decide) (fun c5 => ?_) (fun c5 => ?_)
  · have hF := if_f c5 hF
    refine lv_iconst (v := (0 : Int32)) hx hb (dk DX9_takesSign 13 rfl) (by decide) ?_
    cases hF
    exact r_zret (v := false) C hrt hR (dk DX9_takesSign 14 rfl)
  · have hF := if_t c5 hF
    refine lv_aload_n hx hb (dk DX9_takesSign 4 rfl) rfl (lv_at hl 0 rfl) ?_
    refine lv_aload_n hx hb (dk DX9_takesSign 5 rfl) rfl (lv_at hl 0 rfl) ?_
    refine gX9_18_2 C hR ob46 rf46_2 (dk DX9_takesSign 6 rfl) ?_
    refine lv_aload_n hx hb (dk DX9_takesSign 7 rfl) rfl (lv_at hl 0 rfl) ?_
    refine gX9_28_2 C hR ob46 (dk DX9_takesSign 8 rfl) ?_
    obtain ⟨h4, hF⟩ := ckB_ex hF
    refine r_iald C hR ob49 h4 (dk DX9_takesSign 9 rfl) ?_
    refine lv_topi (fun x5 ex5 => ?_)
    have hF := lt_at ex5 hF
    obtain ⟨x8, m6, hz7, hF⟩ := bnd_ex hF
    refine r_callVi (As := [.int x5]) (rest := []) C hR (C_Tx_byteAtG l hl0 G x5 m1 _ _ hz7) (by decide) (by decide) ob46 rfl wX9_69_2 rfl rfl (Nat.le_of_ble_eq_true rfl) hl.1 ⟨Nat.zero_le _, Nat.zero_le _⟩ (dk DX9_takesSign 10 rfl) (fun H locs hR => ?_)
    refine lv_iload_n hx hb (dk DX9_takesSign 11 rfl) rfl (lv_at hl 1 rfl) ?_
    refine lv_icmp_eq (tgt := 27) hx hb (dk DX9_takesSign 12 rfl) (by decide) (fun c22 => ?_) (fun c22 => ?_)
    · have hF := if_t c22 hF
      refine lv_aload_n hx hb (dk DX9_takesSign 15 rfl) rfl (lv_at hl 0 rfl) ?_
      refine lv_dup hx hb (dk DX9_takesSign 16 rfl) rfl ?_
      refine gX9_28_2 C hR ob46 (dk DX9_takesSign 17 rfl) ?_
      refine lv_iconst (v := (1 : Int32)) hx hb (dk DX9_takesSign 18 rfl) (by decide) ?_
      refine lv_iadd hx hb (dk DX9_takesSign 19 rfl) ?_
      refine pX9_28_2 (x := (gI m6 46 5) + (1 : Int32)) C hR ob46 (dk DX9_takesSign 20 rfl) (fun H locs hR => ?_)
      obtain ⟨m9, em9, hF⟩ := lt_ex hF
      have hR := Rp_at em9 hR
      refine lv_iconst (v := (1 : Int32)) hx hb (dk DX9_takesSign 21 rfl) (by decide) ?_
      cases hF
      exact r_zret (v := true) C hrt hR (dk DX9_takesSign 22 rfl)
    · have hF := if_f c22 hF
      refine lv_iconst (v := (0 : Int32)) hx hb (dk DX9_takesSign 13 rfl) (by decide) ?_
      cases hF
      exact r_zret (v := false) C hrt hR (dk DX9_takesSign 14 rfl)
set_option maxHeartbeats 4000000 in
set_option maxRecDepth 100000 in
theorem C_Tx_readLinesG (l : Launch) (hl0 : l.stackTraces = false) (G : GG) (a2 : Int32) (a3 : Int32) (m0 : Mem) (v : Int32) (m' : Mem) (hF : F_Tx_readLinesG a2 a3 m0 = some (v, m')) : Ct l G mr0 N0 yX9_readLines cX9_readLines 5 (some .int) 13 [.ref (G.2.1 + 46), .ref (G.2.1 + 1), .int a2, .int a3] m0 (some (.int v)) m' := by
  refine Ct_of hl0 (by decide) (Nat.le_of_ble_eq_true rfl) ?_
  intro p e s mid args below meth c ls C hrt hl hR
  have hx := C.1.1
  have hb := C.1.2.1
  have hl : lv_has ls 5 [(0, .ref (G.2.1 + 46)), (1, .ref (G.2.1 + 1)), (2, .int a2), (3, .int a3)] := hl
  unfold F_Tx_readLinesG at hF
  refine lv_aload_n hx hb (dk DX9_readLines 0 rfl) rfl (lv_at hl 0 rfl) ?_
  refine lv_aload_n hx hb (dk DX9_readLines 1 rfl) rfl (lv_at hl 1 rfl) ?_
  refine lv_iload_n hx hb (dk DX9_readLines 2 rfl) rfl (lv_at hl 2 rfl) ?_
  refine lv_aload_n hx hb (dk DX9_readLines 3 rfl) rfl (lv_at hl 1 rfl) ?_
  refine r_aleni (v := (400 : Int32)) C hR ob1 rfl (dk DX9_readLines 4 rfl) ?_
  refine lv_sipush (v := (400 : Int32)) hx hb (dk DX9_readLines 5 rfl) (by decide) ?_
  refine r_mnI C (gd q797 rfl) (by decide) (Nat.le_of_ble_eq_true rfl) hl.1 ⟨Nat.zero_le _, Nat.zero_le _⟩ (dk DX9_readLines 6 rfl) ?_
  refine r_mnI C (gd q797 rfl) (by decide) (Nat.le_of_ble_eq_true rfl) hl.1 ⟨Nat.zero_le _, Nat.zero_le _⟩ (dk DX9_readLines 7 rfl) ?_
  obtain ⟨u3, m1, hz2, hF⟩ := bnd_ex hF
  refine r_callVv (As := [.ref (G.2.1 + 1), .int (mnI a2 (mnI (400 : Int32) (400 : Int32)))]) (rest := []) C hR (C_Tx_cutG l hl0 G (mnI a2 (mnI (400 : Int32) (400 : Int32))) m0 _ _ hz2) (by decide) (by decide) ob46 rfl wX9_40_2 rfl rfl (Nat.le_of_ble_eq_true rfl) hl.1 ⟨Nat.zero_le _, Nat.zero_le _⟩ (dk DX9_readLines 8 rfl) (fun H locs hR => ?_)
  refine lv_aload_n hx hb (dk DX9_readLines 9 rfl) rfl (lv_at hl 0 rfl) ?_
  refine lv_iconst (v := (0 : Int32)) hx hb (dk DX9_readLines 10 rfl) (by decide) ?_
  refine pX9_28_2 (x := (0 : Int32)) C hR ob46 (dk DX9_readLines 11 rfl) (fun H locs hR => ?_)
  obtain ⟨m4, em4, hF⟩ := lt_ex hF
  have hR := Rp_at em4 hR
  refine lv_aload_n hx hb (dk DX9_readLines 12 rfl) rfl (lv_at hl 0 rfl) ?_
  refine lv_iconst (v := (-1 : Int32)) hx hb (dk DX9_readLines 13 rfl) (by decide) ?_
  refine pX9_31_2 (x := (-1 : Int32)) C hR ob46 (dk DX9_readLines 14 rfl) (fun H locs hR => ?_)
  obtain ⟨m5, em5, hF⟩ := lt_ex hF
  have hR := Rp_at em5 hR
  refine lv_aload_n hx hb (dk DX9_readLines 15 rfl) rfl (lv_at hl 0 rfl) ?_
  refine lv_iconst (v := (3 : Int32)) hx hb (dk DX9_readLines 16 rfl) (by decide) ?_
  obtain ⟨z8, m6, hz7, hF⟩ := bnd_ex hF
  refine r_callVi (As := [.int (3 : Int32)]) (rest := []) C hR (C_Tx_isAtG l hl0 G (3 : Int32) m5 _ _ hz7) (by decide) (by decide) ob46 rfl wX9_44_2 rfl rfl (Nat.le_of_ble_eq_true rfl) hl.1 ⟨Nat.zero_le _, Nat.zero_le _⟩ (dk DX9_readLines 17 rfl) (fun H locs hR => ?_)
  refine z_ifeq (tgt := 37) hx hb (dk DX9_readLines 18 rfl) (by decide) (fun c32 => ?_) (fun c32 => ?_)
  · have hF := if_f c32 hF
    refine lv_iconst (v := (1 : Int32)) hx hb (dk DX9_readLines 21 rfl) (by decide) ?_
    refine lv_istore (lv' := [(4, .int (1 : Int32)), (0, .ref (G.2.1 + 46)), (1, .ref (G.2.1 + 1)), (2, .int a2), (3, .int a3)]) hx hb (dk DX9_readLines 22 rfl) hl (by decide) rfl (fun ls hl => ?_)
    obtain ⟨k78_10, ek78_10, hF⟩ := lt_ex hF
    have J78 : ∀ (x10 : Int32) (m9 : Mem) (H : Heap) (locs : List Loc) (ls : Array Slot), lv_has ls 5 [(0, .ref (G.2.1 + 46)), (4, .int x10)] → Rp G mr0 N0 m9 s H locs → k78_10 x10 m9 = some (v, m') → W p l e (rmD 13) s mid args below meth c H locs 0 0 (MQ below (QR G mr0 N0 (some (.int v)) m') args s 0 0 (fun q => G.2.1 ≤ q)) (F0 mid 78 ls []) := by
      intro x10 m9 H locs ls hl hR hF
      rw [ek78_10] at hF
      refine lv_aload_n hx hb (dk DX9_readLines 42 rfl) rfl (lv_at hl 0 rfl) ?_
      obtain ⟨u13, m11, hz12, hF⟩ := bnd_ex hF
      refine r_callVv (As := []) (rest := []) C hR (C_Tx_setWrongG l hl0 G m9 _ _ hz12) (by decide) (by decide) ob46 rfl wX9_55_2 rfl rfl (Nat.le_of_ble_eq_true rfl) hl.1 ⟨Nat.zero_le _, Nat.zero_le _⟩ (dk DX9_readLines 43 rfl) (fun H locs hR => ?_)
      refine lv_iload hx hb (dk DX9_readLines 44 rfl) (lv_at hl 1 rfl) ?_
      cases hF
      exact r_iret (v := x10) C hrt hR (dk DX9_readLines 45 rfl)
    obtain ⟨k91_14, ek91_14, hF⟩ := lt_ex hF
    have J91 : ∀ (m14 : Mem) (H : Heap) (locs : List Loc) (ls : Array Slot), lv_has ls 5 [(0, .ref (G.2.1 + 46)), (3, .int a3)] → Rp G mr0 N0 m14 s H locs → k91_14  m14 = some (v, m') → W p l e (rmD 13) s mid args below meth c H locs 0 0 (MQ below (QR G mr0 N0 (some (.int v)) m') args s 0 0 (fun q => G.2.1 ≤ q)) (F0 mid 91 ls []) := by
      intro  m14 H locs ls hl hR hF
      rw [ek91_14] at hF
      refine lv_aload_n hx hb (dk DX9_readLines 48 rfl) rfl (lv_at hl 0 rfl) ?_
      obtain ⟨u17, m15, hz16, hF⟩ := bnd_ex hF
      refine r_callVv (As := []) (rest := []) C hR (C_Tx_setWrongG l hl0 G m14 _ _ hz16) (by decide) (by decide) ob46 rfl wX9_55_2 rfl rfl (Nat.le_of_ble_eq_true rfl) hl.1 ⟨Nat.zero_le _, Nat.zero_le _⟩ (dk DX9_readLines 49 rfl) (fun H locs hR => ?_)
      refine lv_iload_n hx hb (dk DX9_readLines 50 rfl) rfl (lv_at hl 1 rfl) ?_
      cases hF
      exact r_iret (v := a3) C hrt hR (dk DX9_readLines 51 rfl)
    have L40 : ∀ (nf : Nat) (x19 : Int32) (m18 : Mem) (H : Heap) (locs : List Loc) (ls : Array Slot), lv_has ls 5 [(0, .ref (G.2.1 + 46)), (3, .int a3), (4, .int x19)] → Rp G mr0 N0 m18 s H locs → F_Tx_readLinesG_L40 a3 k78_10 k91_14 nf x19 m18 = some (v, m') → W p l e (rmD 13) s mid args below meth c H locs 0 0 (MQ below (QR G mr0 N0 (some (.int v)) m') args s 0 0 (fun q => G.2.1 ≤ q)) (F0 mid 40 ls []) := by
      intro nf
      induction nf with
      | zero =>
        intro x19 m18 H locs ls hl hR hF
        rw [F_Tx_readLinesG_L40] at hF
        cases hF
      | succ nf ih21 =>
        intro x19 m18 H locs ls hl hR hF
        rw [F_Tx_readLinesG_L40] at hF
        refine lv_iload hx hb (dk DX9_readLines 23 rfl) (lv_at hl 2 rfl) ?_
        refine lv_iload_n hx hb (dk DX9_readLines 24 rfl) rfl (lv_at hl 1 rfl) ?_
        refine lv_icmp_gt (tgt := 91) hx hb (dk DX9_readLines 25 rfl) (by decide) (fun c43 => ?_) (fun c43 => ?_)
        · have hF := if_t c43 hF
          exact J91 m18 _ _ ls (lv_sub hl [0, 1] rfl) hR hF
        · have hF := if_f c43 hF
          refine lv_aload_n hx hb (dk DX9_readLines 26 rfl) rfl (lv_at hl 0 rfl) ?_
          obtain ⟨u24, m22, hz23, hF⟩ := bnd_ex hF
          refine r_callOv (As := []) (rest := []) C hR (C_GT_readLine l hl0 G m18 _ _ hz23) (by decide) (by decide) ob46 rfl wX9_48_2 rfl rfl (Nat.le_of_ble_eq_true rfl) hl.1 ⟨Nat.zero_le _, Nat.zero_le _⟩ (dk DX9_readLines 27 rfl) (fun H locs hR => ?_)
          refine lv_aload_n hx hb (dk DX9_readLines 28 rfl) rfl (lv_at hl 0 rfl) ?_
          refine gX9_31_2 C hR ob46 (dk DX9_readLines 29 rfl) ?_
          refine lv_iconst (v := (-1 : Int32)) hx hb (dk DX9_readLines 30 rfl) (by decide) ?_
          refine lv_icmp_ne (tgt := 66) hx hb (dk DX9_readLines 31 rfl) (by decide) (fun c55 => ?_) (fun c55 => ?_)
          · have hF := if_f c55 hF
            refine lv_iload hx hb (dk DX9_readLines 36 rfl) (lv_at hl 2 rfl) ?_
            cases hF
            exact r_iret (v := x19) C hrt hR (dk DX9_readLines 37 rfl)
          · have hF := if_t c55 hF
            refine lv_aload_n hx hb (dk DX9_readLines 32 rfl) rfl (lv_at hl 0 rfl) ?_
            refine lv_iconst (v := (3 : Int32)) hx hb (dk DX9_readLines 33 rfl) (by decide) ?_
            obtain ⟨z27, m25, hz26, hF⟩ := bnd_ex hF
            refine r_callVi (As := [.int (3 : Int32)]) (rest := []) C hR (C_Tx_isAtG l hl0 G (3 : Int32) m22 _ _ hz26) (by decide) (by decide) ob46 rfl wX9_44_2 rfl rfl (Nat.le_of_ble_eq_true rfl) hl.1 ⟨Nat.zero_le _, Nat.zero_le _⟩ (dk DX9_readLines 34 rfl) (fun H locs hR => ?_)
            refine z_ifeq (tgt := 69) hx hb (dk DX9_readLines 35 rfl) (by decide) (fun c63 => ?_) (fun c63 => ?_)
            · have hF := if_f c63 hF
              refine lv_aload_n hx hb (dk DX9_readLines 38 rfl) rfl (lv_at hl 0 rfl) ?_
              refine lv_bipush (v := (59 : Int32)) hx hb (dk DX9_readLines 39 rfl) (by decide) ?_
              obtain ⟨z30, m28, hz29, hF⟩ := bnd_ex hF
              refine r_callVi (As := [.int (59 : Int32)]) (rest := []) C hR (C_Tx_takesSignG l hl0 G (59 : Int32) m25 _ _ hz29) (by decide) (by decide) ob46 rfl wX9_51_2 rfl rfl (Nat.le_of_ble_eq_true rfl) hl.1 ⟨Nat.zero_le _, Nat.zero_le _⟩ (dk DX9_readLines 40 rfl) (fun H locs hR => ?_)
              refine z_ifne (tgt := 85) hx hb (dk DX9_readLines 41 rfl) (by decide) (fun c75 => ?_) (fun c75 => ?_)
              · have hF := if_t c75 hF
                obtain ⟨x31, ex31, hF⟩ := lt_ex hF
                refine lv_iinc (v := x31) (lv' := [(4, .int x31), (0, .ref (G.2.1 + 46)), (3, .int a3)]) hx hb (dk DX9_readLines 46 rfl) hl (k := 2) rfl (by rw [ex31]; rfl) (by decide) rfl (fun ls hl => ?_)
                refine lv_goto (tgt := 40) hx hb (dk DX9_readLines 47 rfl) (by decide) ?_
                exact ih21 x31 m28 _ _ ls (lv_sub hl [1, 2, 0] rfl) hR hF
              · have hF := if_f c75 hF
                exact J78 x19 m28 _ _ ls (lv_sub hl [0, 2] rfl) hR hF
            · have hF := if_t c63 hF
              refine lv_iload hx hb (dk DX9_readLines 36 rfl) (lv_at hl 2 rfl) ?_
              cases hF
              exact r_iret (v := x19) C hrt hR (dk DX9_readLines 37 rfl)
    exact L40 1000000 (1 : Int32) m6 _ _ ls (lv_sub hl [1, 4, 0] rfl) hR hF
  · have hF := if_t c32 hF
    refine lv_iconst (v := (0 : Int32)) hx hb (dk DX9_readLines 19 rfl) (by decide) ?_
    cases hF
    exact r_iret (v := (0 : Int32)) C hrt hR (dk DX9_readLines 20 rfl)
set_option maxHeartbeats 4000000 in
set_option maxRecDepth 100000 in
theorem C_GT_readGround (l : Launch) (hl0 : l.stackTraces = false) (G : GG) (a2 : Int32) (a3 : Bool) (a4 : Int32) (m0 : Mem) (v : Int32) (m' : Mem) (hF : F_GT_readGround a2 a3 a4 m0 = some (v, m')) : Ct l G mr0 N0 yX2_readGround cX2_readGround 5 (some .int) 14 [.ref (G.2.1 + 46), .ref (G.2.1 + 1), .int a2, .int (b2i a3), .int a4] m0 (some (.int v)) m' := by
  refine Ct_of hl0 (by decide) (Nat.le_of_ble_eq_true rfl) ?_
  intro p e s mid args below meth c ls C hrt hl hR
  have hx := C.1.1
  have hb := C.1.2.1
  have hl : lv_has ls 5 [(0, .ref (G.2.1 + 46)), (1, .ref (G.2.1 + 1)), (2, .int a2), (3, .int (b2i a3)), (4, .int a4)] := hl
  unfold F_GT_readGround at hF
  refine lv_aload_n hx hb (dk DX2_readGround 0 rfl) rfl (lv_at hl 0 rfl) ?_
  refine lv_iconst (v := (0 : Int32)) hx hb (dk DX2_readGround 1 rfl) (by decide) ?_
  refine pX2_15 (x := (0 : Int32)) C hR ob46 (dk DX2_readGround 2 rfl) (fun H locs hR => ?_)
  obtain ⟨m1, em1, hF⟩ := lt_ex hF
  have hR := Rp_at em1 hR
  refine lv_aload_n hx hb (dk DX2_readGround 3 rfl) rfl (lv_at hl 0 rfl) ?_
  refine lv_iload hx hb (dk DX2_readGround 4 rfl) (lv_at hl 4 rfl) ?_
  refine pX2_19 (x := a4) C hR ob46 (dk DX2_readGround 5 rfl) (fun H locs hR => ?_)
  obtain ⟨m2, em2, hF⟩ := lt_ex hF
  have hR := Rp_at em2 hR
  refine lv_aload_n hx hb (dk DX2_readGround 6 rfl) rfl (lv_at hl 0 rfl) ?_
  refine lv_iload_n hx hb (dk DX2_readGround 7 rfl) rfl (lv_at hl 3 rfl) ?_
  refine pX2_22 (x := a3) C hR ob46 (dk DX2_readGround 8 rfl) (fun H locs hR => ?_)
  obtain ⟨m3, em3, hF⟩ := lt_ex hF
  have hR := Rp_at em3 hR
  refine lv_aload_n hx hb (dk DX2_readGround 9 rfl) rfl (lv_at hl 0 rfl) ?_
  refine lv_aload_n hx hb (dk DX2_readGround 10 rfl) rfl (lv_at hl 1 rfl) ?_
  refine lv_iload_n hx hb (dk DX2_readGround 11 rfl) rfl (lv_at hl 2 rfl) ?_
  refine lv_bipush (v := (14 : Int32)) hx hb (dk DX2_readGround 12 rfl) (by decide) ?_
  obtain ⟨x6, m4, hz5, hF⟩ := bnd_ex hF
  refine r_callUi (As := [.ref (G.2.1 + 1), .int a2, .int (14 : Int32)]) (rest := []) C hR (C_Tx_readLinesG l hl0 G a2 (14 : Int32) m3 _ _ hz5) (by decide) (by decide) ob46 rfl wX2_26_2 rfl rfl (Nat.le_of_ble_eq_true rfl) hl.1 ⟨Nat.zero_le _, Nat.zero_le _⟩ (dk DX2_readGround 13 rfl) (fun H locs hR => ?_)
  refine lv_pop hx hb (dk DX2_readGround 14 rfl) rfl ?_
  refine lv_aload_n hx hb (dk DX2_readGround 15 rfl) rfl (lv_at hl 0 rfl) ?_
  refine gX2_30 C hR ob46 (dk DX2_readGround 16 rfl) ?_
  cases hF
  exact r_iret (v := gI m4 46 6) C hrt hR (dk DX2_readGround 17 rfl)
set_option maxHeartbeats 4000000 in
set_option maxRecDepth 100000 in
theorem C_Gr_setSide (l : Launch) (hl0 : l.stackTraces = false) (G : GG) (a1 : Int32) (a2 : Int32) (a3 : Int32) (m0 : Mem) (v : Unit) (m' : Mem) (hF : F_Gr_setSide a1 a2 a3 m0 = some (v, m')) : Ct l G mr0 N0 yX1_setSide cX1_setSide 4 none 1 [.ref (G.2.1 + 3), .int a1, .int a2, .int a3] m0 none m' := by
  refine Ct_of hl0 (by decide) (Nat.le_of_ble_eq_true rfl) ?_
  intro p e s mid args below meth c ls C hrt hl hR
  have hx := C.1.1
  have hb := C.1.2.1
  have hl : lv_has ls 4 [(0, .ref (G.2.1 + 3)), (1, .int a1), (2, .int a2), (3, .int a3)] := hl
  unfold F_Gr_setSide at hF
  refine lv_iload_n hx hb (dk DX1_setSide 0 rfl) rfl (lv_at hl 1 rfl) ?_
  refine lv_if_lt (tgt := 23) hx hb (dk DX1_setSide 1 rfl) (by decide) (fun c1 => ?_) (fun c1 => ?_)
  · have hF := if_t c1 hF
    cases hF
    exact r_vret C hrt hR (dk DX1_setSide 15 rfl)
  · have hF := if_f c1 hF
    refine lv_iload_n hx hb (dk DX1_setSide 2 rfl) rfl (lv_at hl 1 rfl) ?_
    refine lv_iconst (v := (2 : Int32)) hx hb (dk DX1_setSide 3 rfl) (by decide) ?_
    refine lv_icmp_ge (tgt := 23) hx hb (dk DX1_setSide 4 rfl) (by decide) (fun c6 => ?_) (fun c6 => ?_)
    · have hF := if_t c6 hF
      cases hF
      exact r_vret C hrt hR (dk DX1_setSide 15 rfl)
    · have hF := if_f c6 hF
      refine lv_aload_n hx hb (dk DX1_setSide 5 rfl) rfl (lv_at hl 0 rfl) ?_
      refine gX1_33 C hR ob3 rf3_7 (dk DX1_setSide 6 rfl) ?_
      refine lv_iload_n hx hb (dk DX1_setSide 7 rfl) rfl (lv_at hl 1 rfl) ?_
      refine lv_iload_n hx hb (dk DX1_setSide 8 rfl) rfl (lv_at hl 2 rfl) ?_
      obtain ⟨h2, hF⟩ := ckB_ex hF
      refine r_iast C hR ob4 h2 (dk DX1_setSide 9 rfl) (fun H locs hR => ?_)
      obtain ⟨m1, em1, hF⟩ := lt_ex hF
      have hR := Rp_at em1 hR
      refine lv_aload_n hx hb (dk DX1_setSide 10 rfl) rfl (lv_at hl 0 rfl) ?_
      refine gX1_37 C hR ob3 rf3_8 (dk DX1_setSide 11 rfl) ?_
      refine lv_iload_n hx hb (dk DX1_setSide 12 rfl) rfl (lv_at hl 1 rfl) ?_
      refine lv_iload_n hx hb (dk DX1_setSide 13 rfl) rfl (lv_at hl 3 rfl) ?_
      obtain ⟨h4, hF⟩ := ckB_ex hF
      refine r_iast C hR ob5 h4 (dk DX1_setSide 14 rfl) (fun H locs hR => ?_)
      obtain ⟨m3, em3, hF⟩ := lt_ex hF
      have hR := Rp_at em3 hR
      cases hF
      exact r_vret C hrt hR (dk DX1_setSide 15 rfl)
set_option maxHeartbeats 4000000 in
set_option maxRecDepth 100000 in
theorem C_Gr_setSlot (l : Launch) (hl0 : l.stackTraces = false) (G : GG) (a1 : Int32) (a2 : Int32) (a3 : Int32) (a4 : Int32) (m0 : Mem) (v : Unit) (m' : Mem) (hF : F_Gr_setSlot a1 a2 a3 a4 m0 = some (v, m')) : Ct l G mr0 N0 yX1_setSlot cX1_setSlot 6 none 1 [.ref (G.2.1 + 3), .int a1, .int a2, .int a3, .int a4] m0 none m' := by
  refine Ct_of hl0 (by decide) (Nat.le_of_ble_eq_true rfl) ?_
  intro p e s mid args below meth c ls C hrt hl hR
  have hx := C.1.1
  have hb := C.1.2.1
  have hl : lv_has ls 6 [(0, .ref (G.2.1 + 3)), (1, .int a1), (2, .int a2), (3, .int a3), (4, .int a4)] := hl
  unfold F_Gr_setSlot at hF
  refine lv_iload_n hx hb (dk DX1_setSlot 0 rfl) rfl (lv_at hl 1 rfl) ?_
  refine lv_iconst (v := (4 : Int32)) hx hb (dk DX1_setSlot 1 rfl) (by decide) ?_
  refine lv_imul hx hb (dk DX1_setSlot 2 rfl) ?_
  refine lv_iload_n hx hb (dk DX1_setSlot 3 rfl) rfl (lv_at hl 2 rfl) ?_
  refine lv_iadd hx hb (dk DX1_setSlot 4 rfl) ?_
  refine lv_topi (fun x1 ex1 => ?_)
  have hF := lt_at ex1 hF
  refine lv_istore (lv' := [(5, .int x1), (0, .ref (G.2.1 + 3)), (1, .int a1), (2, .int a2), (3, .int a3), (4, .int a4)]) hx hb (dk DX1_setSlot 5 rfl) hl (by decide) rfl (fun ls hl => ?_)
  refine lv_iload hx hb (dk DX1_setSlot 6 rfl) (lv_at hl 0 rfl) ?_
  refine lv_if_lt (tgt := 36) hx hb (dk DX1_setSlot 7 rfl) (by decide) (fun c9 => ?_) (fun c9 => ?_)
  · have hF := if_t c9 hF
    cases hF
    exact r_vret C hrt hR (dk DX1_setSlot 21 rfl)
  · have hF := if_f c9 hF
    refine lv_iload hx hb (dk DX1_setSlot 8 rfl) (lv_at hl 0 rfl) ?_
    refine lv_bipush (v := (16 : Int32)) hx hb (dk DX1_setSlot 9 rfl) (by decide) ?_
    refine lv_icmp_ge (tgt := 36) hx hb (dk DX1_setSlot 10 rfl) (by decide) (fun c16 => ?_) (fun c16 => ?_)
    · have hF := if_t c16 hF
      cases hF
      exact r_vret C hrt hR (dk DX1_setSlot 21 rfl)
    · have hF := if_f c16 hF
      refine lv_aload_n hx hb (dk DX1_setSlot 11 rfl) rfl (lv_at hl 1 rfl) ?_
      refine gX1_40 C hR ob3 rf3_9 (dk DX1_setSlot 12 rfl) ?_
      refine lv_iload hx hb (dk DX1_setSlot 13 rfl) (lv_at hl 0 rfl) ?_
      refine lv_iload_n hx hb (dk DX1_setSlot 14 rfl) rfl (lv_at hl 4 rfl) ?_
      obtain ⟨h3, hF⟩ := ckB_ex hF
      refine r_iast C hR ob6 h3 (dk DX1_setSlot 15 rfl) (fun H locs hR => ?_)
      obtain ⟨m2, em2, hF⟩ := lt_ex hF
      have hR := Rp_at em2 hR
      refine lv_aload_n hx hb (dk DX1_setSlot 16 rfl) rfl (lv_at hl 1 rfl) ?_
      refine gX1_43 C hR ob3 rf3_10 (dk DX1_setSlot 17 rfl) ?_
      refine lv_iload hx hb (dk DX1_setSlot 18 rfl) (lv_at hl 0 rfl) ?_
      refine lv_iload hx hb (dk DX1_setSlot 19 rfl) (lv_at hl 5 rfl) ?_
      obtain ⟨h5, hF⟩ := ckB_ex hF
      refine r_iast C hR ob7 h5 (dk DX1_setSlot 20 rfl) (fun H locs hR => ?_)
      obtain ⟨m4, em4, hF⟩ := lt_ex hF
      have hR := Rp_at em4 hR
      cases hF
      exact r_vret C hrt hR (dk DX1_setSlot 21 rfl)
set_option maxHeartbeats 4000000 in
set_option maxRecDepth 100000 in
theorem C_Bk_add (l : Launch) (hl0 : l.stackTraces = false) (G : GG) (a1 : Int32) (a2 : Int32) (a3 : Int32) (m0 : Mem) (v : Unit) (m' : Mem) (hF : F_Bk_add a1 a2 a3 m0 = some (v, m')) : Ct l G mr0 N0 yX0_add cX0_add 4 none 1 [.ref (G.2.1 + 12), .int a1, .int a2, .int a3] m0 none m' := by
  refine Ct_of hl0 (by decide) (Nat.le_of_ble_eq_true rfl) ?_
  intro p e s mid args below meth c ls C hrt hl hR
  have hx := C.1.1
  have hb := C.1.2.1
  have hl : lv_has ls 4 [(0, .ref (G.2.1 + 12)), (1, .int a1), (2, .int a2), (3, .int a3)] := hl
  unfold F_Bk_add at hF
  refine lv_aload_n hx hb (dk DX0_add 0 rfl) rfl (lv_at hl 0 rfl) ?_
  refine gX0_9 C hR ob12 (dk DX0_add 1 rfl) ?_
  refine lv_if_lt (tgt := 66) hx hb (dk DX0_add 2 rfl) (by decide) (fun c4 => ?_) (fun c4 => ?_)
  · have hF := if_t c4 hF
    cases hF
    exact r_vret C hrt hR (dk DX0_add 41 rfl)
  · have hF := if_f c4 hF
    refine lv_aload_n hx hb (dk DX0_add 3 rfl) rfl (lv_at hl 0 rfl) ?_
    refine gX0_9 C hR ob12 (dk DX0_add 4 rfl) ?_
    refine lv_bipush (v := (60 : Int32)) hx hb (dk DX0_add 5 rfl) (by decide) ?_
    refine lv_icmp_ge (tgt := 66) hx hb (dk DX0_add 6 rfl) (by decide) (fun c13 => ?_) (fun c13 => ?_)
    · have hF := if_t c13 hF
      cases hF
      exact r_vret C hrt hR (dk DX0_add 41 rfl)
    · have hF := if_f c13 hF
      refine lv_aload_n hx hb (dk DX0_add 7 rfl) rfl (lv_at hl 0 rfl) ?_
      refine gX0_15 C hR ob12 rf12_1 (dk DX0_add 8 rfl) ?_
      refine lv_aload_n hx hb (dk DX0_add 9 rfl) rfl (lv_at hl 0 rfl) ?_
      refine gX0_9 C hR ob12 (dk DX0_add 10 rfl) ?_
      refine lv_iconst (v := (3 : Int32)) hx hb (dk DX0_add 11 rfl) (by decide) ?_
      refine lv_imul hx hb (dk DX0_add 12 rfl) ?_
      refine lv_iload_n hx hb (dk DX0_add 13 rfl) rfl (lv_at hl 1 rfl) ?_
      obtain ⟨h2, hF⟩ := ckB_ex hF
      refine r_iast C hR ob13 h2 (dk DX0_add 14 rfl) (fun H locs hR => ?_)
      obtain ⟨m1, em1, hF⟩ := lt_ex hF
      have hR := Rp_at em1 hR
      refine lv_aload_n hx hb (dk DX0_add 15 rfl) rfl (lv_at hl 0 rfl) ?_
      refine gX0_15 C hR ob12 rf12_1 (dk DX0_add 16 rfl) ?_
      refine lv_aload_n hx hb (dk DX0_add 17 rfl) rfl (lv_at hl 0 rfl) ?_
      refine gX0_9 C hR ob12 (dk DX0_add 18 rfl) ?_
      refine lv_iconst (v := (3 : Int32)) hx hb (dk DX0_add 19 rfl) (by decide) ?_
      refine lv_imul hx hb (dk DX0_add 20 rfl) ?_
      refine lv_iconst (v := (1 : Int32)) hx hb (dk DX0_add 21 rfl) (by decide) ?_
      refine lv_iadd hx hb (dk DX0_add 22 rfl) ?_
      refine lv_iload_n hx hb (dk DX0_add 23 rfl) rfl (lv_at hl 2 rfl) ?_
      obtain ⟨h4, hF⟩ := ckB_ex hF
      refine r_iast C hR ob13 h4 (dk DX0_add 24 rfl) (fun H locs hR => ?_)
      obtain ⟨m3, em3, hF⟩ := lt_ex hF
      have hR := Rp_at em3 hR
      refine lv_aload_n hx hb (dk DX0_add 25 rfl) rfl (lv_at hl 0 rfl) ?_
      refine gX0_15 C hR ob12 rf12_1 (dk DX0_add 26 rfl) ?_
      refine lv_aload_n hx hb (dk DX0_add 27 rfl) rfl (lv_at hl 0 rfl) ?_
      refine gX0_9 C hR ob12 (dk DX0_add 28 rfl) ?_
      refine lv_iconst (v := (3 : Int32)) hx hb (dk DX0_add 29 rfl) (by decide) ?_
      refine lv_imul hx hb (dk DX0_add 30 rfl) ?_
      refine lv_iconst (v := (2 : Int32)) hx hb (dk DX0_add 31 rfl) (by decide) ?_
      refine lv_iadd hx hb (dk DX0_add 32 rfl) ?_
      refine lv_iload_n hx hb (dk DX0_add 33 rfl) rfl (lv_at hl 3 rfl) ?_
      obtain ⟨h6, hF⟩ := ckB_ex hF
      refine r_iast C hR ob13 h6 (dk DX0_add 34 rfl) (fun H locs hR => ?_)
      obtain ⟨m5, em5, hF⟩ := lt_ex hF
      have hR := Rp_at em5 hR
      refine lv_aload_n hx hb (dk DX0_add 35 rfl) rfl (lv_at hl 0 rfl) ?_
      refine lv_dup hx hb (dk DX0_add 36 rfl) rfl ?_
      refine gX0_9 C hR ob12 (dk DX0_add 37 rfl) ?_
      refine lv_iconst (v := (1 : Int32)) hx hb (dk DX0_add 38 rfl) (by decide) ?_
      refine lv_iadd hx hb (dk DX0_add 39 rfl) ?_
      refine pX0_9 (x := (gI m5 12 0) + (1 : Int32)) C hR ob12 (dk DX0_add 40 rfl) (fun H locs hR => ?_)
      obtain ⟨m7, em7, hF⟩ := lt_ex hF
      have hR := Rp_at em7 hR
      cases hF
      exact r_vret C hrt hR (dk DX0_add 41 rfl)
set_option maxHeartbeats 4000000 in
set_option maxRecDepth 100000 in
theorem C_GT_tellLine (l : Launch) (hl0 : l.stackTraces = false) (G : GG) (a2 : Int32) (m0 : Mem) (v : Unit) (m' : Mem) (hF : F_GT_tellLine a2 m0 = some (v, m')) : Ct l G mr0 N0 yX2_tellLine cX2_tellLine 6 none 2 [.ref (G.2.1 + 46), .ref (G.2.1 + 3), .int a2] m0 none m' := by
  refine Ct_of hl0 (by decide) (Nat.le_of_ble_eq_true rfl) ?_
  intro p e s mid args below meth c ls C hrt hl hR
  have hx := C.1.1
  have hb := C.1.2.1
  have hl : lv_has ls 6 [(0, .ref (G.2.1 + 46)), (1, .ref (G.2.1 + 3)), (2, .int a2)] := hl
  unfold F_GT_tellLine at hF
  refine lv_iload_n hx hb (dk DX2_tellLine 0 rfl) rfl (lv_at hl 2 rfl) ?_
  refine lv_if_lt (tgt := 12) hx hb (dk DX2_tellLine 1 rfl) (by decide) (fun c1 => ?_) (fun c1 => ?_)
  · have hF := if_t c1 hF
    cases hF
    exact r_vret C hrt hR (dk DX2_tellLine 7 rfl)
  · have hF := if_f c1 hF
    refine lv_iload_n hx hb (dk DX2_tellLine 2 rfl) rfl (lv_at hl 2 rfl) ?_
    refine lv_iconst (v := (5 : Int32)) hx hb (dk DX2_tellLine 3 rfl) (by decide) ?_
    refine lv_iadd hx hb (dk DX2_tellLine 4 rfl) ?_
    refine lv_bipush (v := (70 : Int32)) hx hb (dk DX2_tellLine 5 rfl) (by decide) ?_
    refine lv_icmp_le (tgt := 13) hx hb (dk DX2_tellLine 6 rfl) (by decide) (fun c9 => ?_) (fun c9 => ?_)
    · have hF := if_t c9 hF
      refine lv_aload_n hx hb (dk DX2_tellLine 8 rfl) rfl (lv_at hl 0 rfl) ?_
      refine gX2_11 C hR ob46 rf46_7 (dk DX2_tellLine 9 rfl) ?_
      refine lv_iload_n hx hb (dk DX2_tellLine 10 rfl) rfl (lv_at hl 2 rfl) ?_
      refine lv_iconst (v := (1 : Int32)) hx hb (dk DX2_tellLine 11 rfl) (by decide) ?_
      refine lv_iadd hx hb (dk DX2_tellLine 12 rfl) ?_
      obtain ⟨h1, hF⟩ := ckB_ex hF
      refine r_iald C hR ob51 h1 (dk DX2_tellLine 13 rfl) ?_
      refine lv_topi (fun x2 ex2 => ?_)
      have hF := lt_at ex2 hF
      refine lv_istore_n (lv' := [(3, .int x2), (0, .ref (G.2.1 + 46)), (1, .ref (G.2.1 + 3)), (2, .int a2)]) hx hb (dk DX2_tellLine 14 rfl) rfl hl (by decide) rfl (fun ls hl => ?_)
      refine lv_aload_n hx hb (dk DX2_tellLine 15 rfl) rfl (lv_at hl 1 rfl) ?_
      refine gX2_11 C hR ob46 rf46_7 (dk DX2_tellLine 16 rfl) ?_
      refine lv_iload_n hx hb (dk DX2_tellLine 17 rfl) rfl (lv_at hl 3 rfl) ?_
      refine lv_iconst (v := (2 : Int32)) hx hb (dk DX2_tellLine 18 rfl) (by decide) ?_
      refine lv_iadd hx hb (dk DX2_tellLine 19 rfl) ?_
      obtain ⟨h3, hF⟩ := ckB_ex hF
      refine r_iald C hR ob51 h3 (dk DX2_tellLine 20 rfl) ?_
      refine lv_topi (fun x4 ex4 => ?_)
      have hF := lt_at ex4 hF
      refine lv_istore (lv' := [(4, .int x4), (3, .int x2), (0, .ref (G.2.1 + 46)), (1, .ref (G.2.1 + 3)), (2, .int a2)]) hx hb (dk DX2_tellLine 21 rfl) hl (by decide) rfl (fun ls hl => ?_)
      refine lv_aload_n hx hb (dk DX2_tellLine 22 rfl) rfl (lv_at hl 2 rfl) ?_
      refine gX2_11 C hR ob46 rf46_7 (dk DX2_tellLine 23 rfl) ?_
      refine lv_iload_n hx hb (dk DX2_tellLine 24 rfl) rfl (lv_at hl 4 rfl) ?_
      refine lv_iconst (v := (3 : Int32)) hx hb (dk DX2_tellLine 25 rfl) (by decide) ?_
      refine lv_iadd hx hb (dk DX2_tellLine 26 rfl) ?_
      obtain ⟨h5, hF⟩ := ckB_ex hF
      refine r_iald C hR ob51 h5 (dk DX2_tellLine 27 rfl) ?_
      refine lv_topi (fun x6 ex6 => ?_)
      have hF := lt_at ex6 hF
      refine lv_istore (lv' := [(5, .int x6), (4, .int x4), (3, .int x2), (0, .ref (G.2.1 + 46)), (1, .ref (G.2.1 + 3)), (2, .int a2)]) hx hb (dk DX2_tellLine 28 rfl) hl (by decide) rfl (fun ls hl => ?_)
      refine lv_aload_n hx hb (dk DX2_tellLine 29 rfl) rfl (lv_at hl 3 rfl) ?_
      refine gX2_11 C hR ob46 rf46_7 (dk DX2_tellLine 30 rfl) ?_
      refine lv_iload_n hx hb (dk DX2_tellLine 31 rfl) rfl (lv_at hl 5 rfl) ?_
      obtain ⟨h7, hF⟩ := ckB_ex hF
      refine r_iald C hR ob51 h7 (dk DX2_tellLine 32 rfl) ?_
      refine lv_topi (fun x8 ex8 => ?_)
      have hF := lt_at ex8 hF
      by_cases d0 : x8 = (0 : Int32)
      · have hF := if_t d0 hF
        refine lv_tableIn (tgt := 96) hx hb (dk DX2_tellLine 33 rfl) (by rw [d0]; decide) (by rw [d0]; decide) (by rw [d0]; rfl) (by decide) ?_
        refine lv_aload_n hx hb (dk DX2_tellLine 34 rfl) rfl (lv_at hl 4 rfl) ?_
        refine lv_iload_n hx hb (dk DX2_tellLine 35 rfl) rfl (lv_at hl 2 rfl) ?_
        refine pX2_99 (x := x2) C hR ob3 (dk DX2_tellLine 36 rfl) (fun H locs hR => ?_)
        obtain ⟨m9, em9, hF⟩ := lt_ex hF
        have hR := Rp_at em9 hR
        refine lv_goto (tgt := 203) hx hb (dk DX2_tellLine 37 rfl) (by decide) ?_
        cases hF
        exact r_vret C hrt hR (dk DX2_tellLine 91 rfl)
      · have hF := if_f d0 hF
        by_cases d1 : x8 = (1 : Int32)
        · have hF := if_t d1 hF
          refine lv_tableIn (tgt := 104) hx hb (dk DX2_tellLine 33 rfl) (by rw [d1]; decide) (by rw [d1]; decide) (by rw [d1]; rfl) (by decide) ?_
          refine lv_aload_n hx hb (dk DX2_tellLine 38 rfl) rfl (lv_at hl 4 rfl) ?_
          refine lv_iload_n hx hb (dk DX2_tellLine 39 rfl) rfl (lv_at hl 2 rfl) ?_
          refine lv_iload hx hb (dk DX2_tellLine 40 rfl) (lv_at hl 1 rfl) ?_
          refine lv_iload hx hb (dk DX2_tellLine 41 rfl) (lv_at hl 0 rfl) ?_
          obtain ⟨u12, m10, hz11, hF⟩ := bnd_ex hF
          refine r_callVv (As := [.int x2, .int x4, .int x6]) (rest := []) C hR (C_Gr_setSide l hl0 G x2 x4 x6 m0 _ _ hz11) (by decide) (by decide) ob3 rfl wX2_103 rfl rfl (Nat.le_of_ble_eq_true rfl) hl.1 ⟨Nat.zero_le _, Nat.zero_le _⟩ (dk DX2_tellLine 42 rfl) (fun H locs hR => ?_)
          refine lv_goto (tgt := 203) hx hb (dk DX2_tellLine 43 rfl) (by decide) ?_
          cases hF
          exact r_vret C hrt hR (dk DX2_tellLine 91 rfl)
        · have hF := if_f d1 hF
          by_cases d2 : x8 = (2 : Int32)
          · have hF := if_t d2 hF
            refine lv_tableIn (tgt := 116) hx hb (dk DX2_tellLine 33 rfl) (by rw [d2]; decide) (by rw [d2]; decide) (by rw [d2]; rfl) (by decide) ?_
            refine lv_aload_n hx hb (dk DX2_tellLine 44 rfl) rfl (lv_at hl 4 rfl) ?_
            refine lv_iload_n hx hb (dk DX2_tellLine 45 rfl) rfl (lv_at hl 2 rfl) ?_
            refine lv_iload hx hb (dk DX2_tellLine 46 rfl) (lv_at hl 1 rfl) ?_
            refine lv_iload hx hb (dk DX2_tellLine 47 rfl) (lv_at hl 0 rfl) ?_
            refine lv_aload_n hx hb (dk DX2_tellLine 48 rfl) rfl (lv_at hl 3 rfl) ?_
            refine gX2_11 C hR ob46 rf46_7 (dk DX2_tellLine 49 rfl) ?_
            refine lv_iload_n hx hb (dk DX2_tellLine 50 rfl) rfl (lv_at hl 5 rfl) ?_
            refine lv_iconst (v := (4 : Int32)) hx hb (dk DX2_tellLine 51 rfl) (by decide) ?_
            refine lv_iadd hx hb (dk DX2_tellLine 52 rfl) ?_
            obtain ⟨h13, hF⟩ := ckB_ex hF
            refine r_iald C hR ob51 h13 (dk DX2_tellLine 53 rfl) ?_
            refine lv_topi (fun x14 ex14 => ?_)
            have hF := lt_at ex14 hF
            obtain ⟨u17, m15, hz16, hF⟩ := bnd_ex hF
            refine r_callVv (As := [.int x2, .int x4, .int x6, .int x14]) (rest := []) C hR (C_Gr_setSlot l hl0 G x2 x4 x6 x14 m0 _ _ hz16) (by decide) (by decide) ob3 rfl wX2_107 rfl rfl (Nat.le_of_ble_eq_true rfl) hl.1 ⟨Nat.zero_le _, Nat.zero_le _⟩ (dk DX2_tellLine 54 rfl) (fun H locs hR => ?_)
            refine lv_goto (tgt := 203) hx hb (dk DX2_tellLine 55 rfl) (by decide) ?_
            cases hF
            exact r_vret C hrt hR (dk DX2_tellLine 91 rfl)
          · have hF := if_f d2 hF
            by_cases d3 : x8 = (3 : Int32)
            · have hF := if_t d3 hF
              refine lv_tableIn (tgt := 136) hx hb (dk DX2_tellLine 33 rfl) (by rw [d3]; decide) (by rw [d3]; decide) (by rw [d3]; rfl) (by decide) ?_
              refine lv_aload_n hx hb (dk DX2_tellLine 56 rfl) rfl (lv_at hl 4 rfl) ?_
              refine lv_dup hx hb (dk DX2_tellLine 57 rfl) rfl ?_
              refine gX2_111 C hR ob3 (dk DX2_tellLine 58 rfl) ?_
              refine lv_iload_n hx hb (dk DX2_tellLine 59 rfl) rfl (lv_at hl 2 rfl) ?_
              refine lv_ior hx hb (dk DX2_tellLine 60 rfl) ?_
              refine pX2_111 (x := (gI m0 3 1) ||| x2) C hR ob3 (dk DX2_tellLine 61 rfl) (fun H locs hR => ?_)
              obtain ⟨m18, em18, hF⟩ := lt_ex hF
              have hR := Rp_at em18 hR
              refine lv_goto (tgt := 203) hx hb (dk DX2_tellLine 62 rfl) (by decide) ?_
              cases hF
              exact r_vret C hrt hR (dk DX2_tellLine 91 rfl)
            · have hF := if_f d3 hF
              by_cases d4 : x8 = (4 : Int32)
              · have hF := if_t d4 hF
                refine lv_tableIn (tgt := 149) hx hb (dk DX2_tellLine 33 rfl) (by rw [d4]; decide) (by rw [d4]; decide) (by rw [d4]; rfl) (by decide) ?_
                refine lv_aload_n hx hb (dk DX2_tellLine 63 rfl) rfl (lv_at hl 4 rfl) ?_
                refine lv_dup hx hb (dk DX2_tellLine 64 rfl) rfl ?_
                refine gX2_113 C hR ob3 (dk DX2_tellLine 65 rfl) ?_
                refine lv_iload_n hx hb (dk DX2_tellLine 66 rfl) rfl (lv_at hl 2 rfl) ?_
                refine lv_ior hx hb (dk DX2_tellLine 67 rfl) ?_
                refine pX2_113 (x := (gI m0 3 2) ||| x2) C hR ob3 (dk DX2_tellLine 68 rfl) (fun H locs hR => ?_)
                obtain ⟨m19, em19, hF⟩ := lt_ex hF
                have hR := Rp_at em19 hR
                refine lv_goto (tgt := 203) hx hb (dk DX2_tellLine 69 rfl) (by decide) ?_
                cases hF
                exact r_vret C hrt hR (dk DX2_tellLine 91 rfl)
              · have hF := if_f d4 hF
                by_cases d5 : x8 = (5 : Int32)
                · have hF := if_t d5 hF
                  refine lv_tableIn (tgt := 162) hx hb (dk DX2_tellLine 33 rfl) (by rw [d5]; decide) (by rw [d5]; decide) (by rw [d5]; rfl) (by decide) ?_
                  refine lv_aload_n hx hb (dk DX2_tellLine 70 rfl) rfl (lv_at hl 4 rfl) ?_
                  refine lv_dup hx hb (dk DX2_tellLine 71 rfl) rfl ?_
                  refine gX2_115 C hR ob3 (dk DX2_tellLine 72 rfl) ?_
                  refine lv_iload_n hx hb (dk DX2_tellLine 73 rfl) rfl (lv_at hl 2 rfl) ?_
                  refine lv_ior hx hb (dk DX2_tellLine 74 rfl) ?_
                  refine pX2_115 (x := (gI m0 3 3) ||| x2) C hR ob3 (dk DX2_tellLine 75 rfl) (fun H locs hR => ?_)
                  obtain ⟨m20, em20, hF⟩ := lt_ex hF
                  have hR := Rp_at em20 hR
                  refine lv_goto (tgt := 203) hx hb (dk DX2_tellLine 76 rfl) (by decide) ?_
                  cases hF
                  exact r_vret C hrt hR (dk DX2_tellLine 91 rfl)
                · have hF := if_f d5 hF
                  by_cases d6 : x8 = (6 : Int32)
                  · have hF := if_t d6 hF
                    refine lv_tableIn (tgt := 175) hx hb (dk DX2_tellLine 33 rfl) (by rw [d6]; decide) (by rw [d6]; decide) (by rw [d6]; rfl) (by decide) ?_
                    refine lv_aload_n hx hb (dk DX2_tellLine 77 rfl) rfl (lv_at hl 4 rfl) ?_
                    refine lv_iload_n hx hb (dk DX2_tellLine 78 rfl) rfl (lv_at hl 2 rfl) ?_
                    refine pX2_117 (x := x2) C hR ob3 (dk DX2_tellLine 79 rfl) (fun H locs hR => ?_)
                    obtain ⟨m21, em21, hF⟩ := lt_ex hF
                    have hR := Rp_at em21 hR
                    refine lv_goto (tgt := 203) hx hb (dk DX2_tellLine 80 rfl) (by decide) ?_
                    cases hF
                    exact r_vret C hrt hR (dk DX2_tellLine 91 rfl)
                  · have hF := if_f d6 hF
                    by_cases d7 : x8 = (7 : Int32)
                    · have hF := if_t d7 hF
                      refine lv_tableIn (tgt := 183) hx hb (dk DX2_tellLine 33 rfl) (by rw [d7]; decide) (by rw [d7]; decide) (by rw [d7]; rfl) (by decide) ?_
                      refine lv_aload_n hx hb (dk DX2_tellLine 81 rfl) rfl (lv_at hl 4 rfl) ?_
                      refine lv_iload_n hx hb (dk DX2_tellLine 82 rfl) rfl (lv_at hl 2 rfl) ?_
                      refine pX2_119 (x := x2) C hR ob3 (dk DX2_tellLine 83 rfl) (fun H locs hR => ?_)
                      obtain ⟨m22, em22, hF⟩ := lt_ex hF
                      have hR := Rp_at em22 hR
                      refine lv_goto (tgt := 203) hx hb (dk DX2_tellLine 84 rfl) (by decide) ?_
                      cases hF
                      exact r_vret C hrt hR (dk DX2_tellLine 91 rfl)
                    · have hF := if_f d7 hF
                      have n0 := i32_ne d0 (z := 0) rfl
                      have n1 := i32_ne d1 (z := 1) rfl
                      have n2 := i32_ne d2 (z := 2) rfl
                      have n3 := i32_ne d3 (z := 3) rfl
                      have n4 := i32_ne d4 (z := 4) rfl
                      have n5 := i32_ne d5 (z := 5) rfl
                      have n6 := i32_ne d6 (z := 6) rfl
                      have n7 := i32_ne d7 (z := 7) rfl
                      refine lv_tableOut (tgt := 191) hx hb (dk DX2_tellLine 33 rfl) (by omega) (by decide) ?_
                      refine lv_aload_n hx hb (dk DX2_tellLine 85 rfl) rfl (lv_at hl 4 rfl) ?_
                      refine gX2_122 C hR ob3 rf3_12 (dk DX2_tellLine 86 rfl) ?_
                      refine lv_iload_n hx hb (dk DX2_tellLine 87 rfl) rfl (lv_at hl 2 rfl) ?_
                      refine lv_iload hx hb (dk DX2_tellLine 88 rfl) (lv_at hl 1 rfl) ?_
                      refine lv_iload hx hb (dk DX2_tellLine 89 rfl) (lv_at hl 0 rfl) ?_
                      obtain ⟨u25, m23, hz24, hF⟩ := bnd_ex hF
                      refine r_callVv (As := [.int x2, .int x4, .int x6]) (rest := []) C hR (C_Bk_add l hl0 G x2 x4 x6 m0 _ _ hz24) (by decide) (by decide) ob12 rfl wX2_125 rfl rfl (Nat.le_of_ble_eq_true rfl) hl.1 ⟨Nat.zero_le _, Nat.zero_le _⟩ (dk DX2_tellLine 90 rfl) (fun H locs hR => ?_)
                      cases hF
                      exact r_vret C hrt hR (dk DX2_tellLine 91 rfl)
    · have hF := if_f c9 hF
      cases hF
      exact r_vret C hrt hR (dk DX2_tellLine 7 rfl)
set_option maxHeartbeats 4000000 in
set_option maxRecDepth 100000 in
theorem C_GT_tell (l : Launch) (hl0 : l.stackTraces = false) (G : GG) (m0 : Mem) (v : Unit) (m' : Mem) (hF : F_GT_tell m0 = some (v, m')) : Ct l G mr0 N0 yX2_tell cX2_tell 3 none 3 [.ref (G.2.1 + 46), .ref (G.2.1 + 3)] m0 none m' := by
  refine Ct_of hl0 (by decide) (Nat.le_of_ble_eq_true rfl) ?_
  intro p e s mid args below meth c ls C hrt hl hR
  have hx := C.1.1
  have hb := C.1.2.1
  have hl : lv_has ls 3 [(0, .ref (G.2.1 + 46)), (1, .ref (G.2.1 + 3))] := hl
  unfold F_GT_tell at hF
  refine lv_iconst (v := (0 : Int32)) hx hb (dk DX2_tell 0 rfl) (by decide) ?_
  refine lv_istore_n (lv' := [(2, .int (0 : Int32)), (0, .ref (G.2.1 + 46)), (1, .ref (G.2.1 + 3))]) hx hb (dk DX2_tell 1 rfl) rfl hl (by decide) rfl (fun ls hl => ?_)
  have L2 : ∀ (nf : Nat) (x2 : Int32) (m1 : Mem) (H : Heap) (locs : List Loc) (ls : Array Slot), lv_has ls 3 [(0, .ref (G.2.1 + 46)), (1, .ref (G.2.1 + 3)), (2, .int x2)] → Rp G mr0 N0 m1 s H locs → F_GT_tell_L2 nf x2 m1 = some (v, m') → W p l e (rmD 3) s mid args below meth c H locs 0 0 (MQ below (QR G mr0 N0 none m') args s 0 0 (fun q => G.2.1 ≤ q)) (F0 mid 2 ls []) := by
    intro nf
    induction nf with
    | zero =>
      intro x2 m1 H locs ls hl hR hF
      rw [F_GT_tell_L2] at hF
      cases hF
    | succ nf ih4 =>
      intro x2 m1 H locs ls hl hR hF
      rw [F_GT_tell_L2] at hF
      refine lv_iload_n hx hb (dk DX2_tell 2 rfl) rfl (lv_at hl 2 rfl) ?_
      refine lv_aload_n hx hb (dk DX2_tell 3 rfl) rfl (lv_at hl 0 rfl) ?_
      refine gX2_15 C hR ob46 (dk DX2_tell 4 rfl) ?_
      refine lv_icmp_ge (tgt := 30) hx hb (dk DX2_tell 5 rfl) (by decide) (fun c7 => ?_) (fun c7 => ?_)
      · have hF := if_t c7 hF
        cases hF
        exact r_vret C hrt hR (dk DX2_tell 17 rfl)
      · have hF := if_f c7 hF
        refine lv_iload_n hx hb (dk DX2_tell 6 rfl) rfl (lv_at hl 2 rfl) ?_
        refine lv_bipush (v := (14 : Int32)) hx hb (dk DX2_tell 7 rfl) (by decide) ?_
        refine lv_icmp_ge (tgt := 30) hx hb (dk DX2_tell 8 rfl) (by decide) (fun c13 => ?_) (fun c13 => ?_)
        · have hF := if_t c13 hF
          cases hF
          exact r_vret C hrt hR (dk DX2_tell 17 rfl)
        · have hF := if_f c13 hF
          refine lv_aload_n hx hb (dk DX2_tell 9 rfl) rfl (lv_at hl 0 rfl) ?_
          refine lv_aload_n hx hb (dk DX2_tell 10 rfl) rfl (lv_at hl 1 rfl) ?_
          refine lv_iload_n hx hb (dk DX2_tell 11 rfl) rfl (lv_at hl 2 rfl) ?_
          refine lv_iconst (v := (5 : Int32)) hx hb (dk DX2_tell 12 rfl) (by decide) ?_
          refine lv_imul hx hb (dk DX2_tell 13 rfl) ?_
          obtain ⟨u7, m5, hz6, hF⟩ := bnd_ex hF
          refine r_callVv (As := [.ref (G.2.1 + 3), .int (x2 * (5 : Int32))]) (rest := []) C hR (C_GT_tellLine l hl0 G (x2 * (5 : Int32)) m1 _ _ hz6) (by decide) (by decide) ob46 rfl wX2_95 rfl rfl (Nat.le_of_ble_eq_true rfl) hl.1 ⟨Nat.zero_le _, Nat.zero_le _⟩ (dk DX2_tell 14 rfl) (fun H locs hR => ?_)
          obtain ⟨x8, ex8, hF⟩ := lt_ex hF
          refine lv_iinc (v := x8) (lv' := [(2, .int x8), (0, .ref (G.2.1 + 46)), (1, .ref (G.2.1 + 3))]) hx hb (dk DX2_tell 15 rfl) hl (k := 2) rfl (by rw [ex8]; rfl) (by decide) rfl (fun ls hl => ?_)
          refine lv_goto (tgt := 2) hx hb (dk DX2_tell 16 rfl) (by decide) ?_
          exact ih4 x8 m5 _ _ ls (lv_sub hl [1, 2, 0] rfl) hR hF
  exact L2 1000000 (0 : Int32) m0 _ _ ls (lv_sub hl [1, 2, 0] rfl) hR hF
set_option maxHeartbeats 4000000 in
set_option maxRecDepth 100000 in
theorem C_T_ground (l : Launch) (hl0 : l.stackTraces = false) (G : GG) (m0 : Mem) (v : Nat ⊕ Int32) (m' : Mem) (hF : F_T_ground m0 = some (v, m')) : CtX l G mr0 N0 yX10_ground cX10_ground 1 (some .int) 15 [.ref (G.2.1 + 0)] m0 (ouI v) m' := by
  refine CtX_of hl0 (by decide) (Nat.le_of_ble_eq_true rfl) ?_
  intro p e s mid args below meth c ls C hrt hex hl hR
  have hx := C.1.1
  have hb := C.1.2.1
  have hl : lv_has ls 1 [(0, .ref (G.2.1 + 0))] := hl
  unfold F_T_ground at hF
  refine lv_aload_n hx hb (dk DX10_ground 0 rfl) rfl (lv_at hl 0 rfl) ?_
  refine lv_aload_n hx hb (dk DX10_ground 1 rfl) rfl (lv_at hl 0 rfl) ?_
  refine gX10_54 C hR ob0 rf0_8 (dk DX10_ground 2 rfl) ?_
  refine lv_aload_n hx hb (dk DX10_ground 3 rfl) rfl (lv_at hl 0 rfl) ?_
  refine gX10_9 C hR ob0 rf0_0 (dk DX10_ground 4 rfl) ?_
  refine lv_aload_n hx hb (dk DX10_ground 5 rfl) rfl (lv_at hl 0 rfl) ?_
  obtain ⟨x3, m1, hz2, hF⟩ := bnd_ex hF
  refine r_callVi (As := []) (rest := [.ref (G.2.1 + 1), .ref (G.2.1 + 46), .ref (G.2.1 + 0)]) C hR (C_T_useTape l hl0 G m0 _ _ hz2) (by decide) (by decide) ob0 rfl wX10_89 rfl rfl (Nat.le_of_ble_eq_true rfl) hl.1 ⟨Nat.zero_le _, Nat.zero_le _⟩ (dk DX10_ground 6 rfl) (fun H locs hR => ?_)
  refine lv_aload_n hx hb (dk DX10_ground 7 rfl) rfl (lv_at hl 0 rfl) ?_
  refine gX10_37 C hR ob0 rf0_5 (dk DX10_ground 8 rfl) ?_
  refine gX10_93 C hR ob16 (dk DX10_ground 9 rfl) ?_
  refine lv_iconst (v := (-1 : Int32)) hx hb (dk DX10_ground 10 rfl) (by decide) ?_
  obtain ⟨k29_5, ek29_5, hF⟩ := lt_ex hF
  have J29 : ∀ (z5 : Bool) (m4 : Mem) (H : Heap) (locs : List Loc) (ls : Array Slot), lv_has ls 1 [(0, .ref (G.2.1 + 0))] → Rp G mr0 N0 m4 s H locs → k29_5 z5 m4 = some (v, m') → W p l e (rmX 15 (ouI v)) s mid args below meth c H locs 0 0 (ZX below G mr0 N0 (ouI v) m' args s) (F0 mid 29 ls [.int (b2i z5), .int x3, .ref (G.2.1 + 1), .ref (G.2.1 + 46), .ref (G.2.1 + 0)]) := by
    intro z5 m4 H locs ls hl hR hF
    rw [ek29_5] at hF
    refine lv_aload_n hx hb (dk DX10_ground 15 rfl) rfl (lv_at hl 0 rfl) ?_
    refine gX10_31 C hR ob0 rf0_4 (dk DX10_ground 16 rfl) ?_
    refine gX10_96 C hR ob3 rf3_12 (dk DX10_ground 17 rfl) ?_
    refine gX10_100 C hR ob12 (dk DX10_ground 18 rfl) ?_
    obtain ⟨x8, m6, hz7, hF⟩ := bnd_ex hF
    refine r_callVi (As := [.ref (G.2.1 + 1), .int x3, .int (b2i z5), .int (gI m4 12 0)]) (rest := [.ref (G.2.1 + 0)]) C hR (C_GT_readGround l hl0 G x3 z5 (gI m4 12 0) m4 _ _ hz7) (by decide) (by decide) ob46 rfl wX10_105 rfl rfl (Nat.le_of_ble_eq_true rfl) hl.1 ⟨Nat.zero_le _, Nat.zero_le _⟩ (dk DX10_ground 19 rfl) (fun H locs hR => ?_)
    refine pX10_17 (x := x8) C hR ob0 (dk DX10_ground 20 rfl) (fun H locs hR => ?_)
    obtain ⟨m9, em9, hF⟩ := lt_ex hF
    have hR := Rp_at em9 hR
    refine lv_aload_n hx hb (dk DX10_ground 21 rfl) rfl (lv_at hl 0 rfl) ?_
    refine gX10_17 C hR ob0 (dk DX10_ground 22 rfl) ?_
    refine lv_iconst (v := (-1 : Int32)) hx hb (dk DX10_ground 23 rfl) (by decide) ?_
    refine lv_icmp_eq (tgt := 63) hx hb (dk DX10_ground 24 rfl) (by decide) (fun c50 => ?_) (fun c50 => ?_)
    · have hF := if_t c50 hF
      refine lv_aload_n hx hb (dk DX10_ground 30 rfl) rfl (lv_at hl 0 rfl) ?_
      refine gX10_31 C hR ob0 rf0_4 (dk DX10_ground 31 rfl) ?_
      refine gX10_116 C hR ob3 (dk DX10_ground 32 rfl) ?_
      refine lv_bipush (v := (12 : Int32)) hx hb (dk DX10_ground 33 rfl) (by decide) ?_
      refine lv_icmp_lt (tgt := 85) hx hb (dk DX10_ground 34 rfl) (by decide) (fun c72 => ?_) (fun c72 => ?_)
      · have hF := if_t c72 hF
        refine lv_aload_n hx hb (dk DX10_ground 40 rfl) rfl (lv_at hl 0 rfl) ?_
        refine gX10_54 C hR ob0 rf0_8 (dk DX10_ground 41 rfl) ?_
        refine lv_aload_n hx hb (dk DX10_ground 42 rfl) rfl (lv_at hl 0 rfl) ?_
        refine gX10_31 C hR ob0 rf0_4 (dk DX10_ground 43 rfl) ?_
        obtain ⟨u12, m10, hz11, hF⟩ := bnd_ex hF
        refine r_callVv (As := [.ref (G.2.1 + 3)]) (rest := []) C hR (C_GT_tell l hl0 G m9 _ _ hz11) (by decide) (by decide) ob46 rfl wX10_124 rfl rfl (Nat.le_of_ble_eq_true rfl) hl.1 ⟨Nat.zero_le _, Nat.zero_le _⟩ (dk DX10_ground 44 rfl) (fun H locs hR => ?_)
        refine lv_aload_n hx hb (dk DX10_ground 45 rfl) rfl (lv_at hl 0 rfl) ?_
        refine gX10_31 C hR ob0 rf0_4 (dk DX10_ground 46 rfl) ?_
        refine lv_dup hx hb (dk DX10_ground 47 rfl) rfl ?_
        refine gX10_116 C hR ob3 (dk DX10_ground 48 rfl) ?_
        refine lv_iconst (v := (1 : Int32)) hx hb (dk DX10_ground 49 rfl) (by decide) ?_
        refine lv_iadd hx hb (dk DX10_ground 50 rfl) ?_
        refine pX10_116 (x := (gI m10 3 6) + (1 : Int32)) C hR ob3 (dk DX10_ground 51 rfl) (fun H locs hR => ?_)
        obtain ⟨m13, em13, hF⟩ := lt_ex hF
        have hR := Rp_at em13 hR
        refine lv_aload_n hx hb (dk DX10_ground 52 rfl) rfl (lv_at hl 0 rfl) ?_
        obtain ⟨u16, m14, hz15, hF⟩ := bnd_ex hF
        refine r_callVv (As := []) (rest := []) C hR (C_T_startAfresh l hl0 G m13 _ _ hz15) (by decide) (by decide) ob0 rfl wX10_128 rfl rfl (Nat.le_of_ble_eq_true rfl) hl.1 ⟨Nat.zero_le _, Nat.zero_le _⟩ (dk DX10_ground 53 rfl) (fun H locs hR => ?_)
        refine lv_aload_n hx hb (dk DX10_ground 54 rfl) rfl (lv_at hl 0 rfl) ?_
        refine gX10_31 C hR ob0 rf0_4 (dk DX10_ground 55 rfl) ?_
        refine gX10_116 C hR ob3 (dk DX10_ground 56 rfl) ?_
        cases hF
        exact x_iret (v := gI m14 3 6) C hrt hR (dk DX10_ground 57 rfl)
      · have hF := if_f c72 hF
        cases hF
        exact r_throw C hex hR tX10_123 strm_X10_121 (by decide) (Nat.le_of_ble_eq_true rfl) hl.1 (dk DX10_ground 35 rfl) (dk DX10_ground 36 rfl) (dk DX10_ground 37 rfl) (dk DX10_ground 38 rfl) (dk DX10_ground 39 rfl)
    · have hF := if_f c50 hF
      cases hF
      exact r_throw C hex hR tX10_113 strm_X10_111 (by decide) (Nat.le_of_ble_eq_true rfl) hl.1 (dk DX10_ground 25 rfl) (dk DX10_ground 26 rfl) (dk DX10_ground 27 rfl) (dk DX10_ground 28 rfl) (dk DX10_ground 29 rfl)
  refine lv_icmp_ne (tgt := 28) hx hb (dk DX10_ground 11 rfl) (by decide) (fun c21 => ?_) (fun c21 => ?_)
  · have hF := if_f c21 hF
    refine lv_iconst (v := (0 : Int32)) hx hb (dk DX10_ground 14 rfl) (by decide) ?_
    exact J29 false m1 _ _ ls (lv_sub hl [0] rfl) hR hF
  · have hF := if_t c21 hF
    refine lv_iconst (v := (1 : Int32)) hx hb (dk DX10_ground 12 rfl) (by decide) ?_
    refine lv_goto (tgt := 29) hx hb (dk DX10_ground 13 rfl) (by decide) ?_
    exact J29 true m1 _ _ ls (lv_sub hl [0] rfl) hR hF
set_option maxHeartbeats 4000000 in
set_option maxRecDepth 100000 in
theorem C_T_habit (l : Launch) (hl0 : l.stackTraces = false) (G : GG) (a1 : Bool) (m0 : Mem) (v : Bool) (m' : Mem) (hF : F_T_habit a1 m0 = some (v, m')) : Ct l G mr0 N0 yX10_habit cX10_habit 4 (some .boolean) 4 [.ref (G.2.1 + 0), .int (b2i a1)] m0 (some (.int (b2i v))) m' := by
  refine Ct_of hl0 (by decide) (Nat.le_of_ble_eq_true rfl) ?_
  intro p e s mid args below meth c ls C hrt hl hR
  have hx := C.1.1
  have hb := C.1.2.1
  have hl : lv_has ls 4 [(0, .ref (G.2.1 + 0)), (1, .int (b2i a1))] := hl
  unfold F_T_habit at hF
  refine lv_aload_n hx hb (dk DX10_habit 0 rfl) rfl (lv_at hl 0 rfl) ?_
  refine gX10_31 C hR ob0 rf0_4 (dk DX10_habit 1 rfl) ?_
  refine gX10_96 C hR ob3 rf3_12 (dk DX10_habit 2 rfl) ?_
  refine lv_iconst (v := (0 : Int32)) hx hb (dk DX10_habit 3 rfl) (by decide) ?_
  obtain ⟨x3, m1, hz2, hF⟩ := bnd_ex hF
  refine r_callVi (As := [.int (0 : Int32)]) (rest := []) C hR (C_Bk_tally l hl0 G (0 : Int32) m0 _ _ hz2) (by decide) (by decide) ob12 rfl wX10_383 rfl rfl (Nat.le_of_ble_eq_true rfl) hl.1 ⟨Nat.zero_le _, Nat.zero_le _⟩ (dk DX10_habit 4 rfl) (fun H locs hR => ?_)
  refine lv_istore_n (lv' := [(2, .int x3), (0, .ref (G.2.1 + 0)), (1, .int (b2i a1))]) hx hb (dk DX10_habit 5 rfl) rfl hl (by decide) rfl (fun ls hl => ?_)
  refine lv_iload_n hx hb (dk DX10_habit 6 rfl) rfl (lv_at hl 2 rfl) ?_
  refine z_ifeq (tgt := 53) hx hb (dk DX10_habit 7 rfl) (by decide) (fun c13 => ?_) (fun c13 => ?_)
  · have hF := if_f c13 hF
    refine lv_iload_n hx hb (dk DX10_habit 29 rfl) rfl (lv_at hl 0 rfl) ?_
    refine lv_if_le (tgt := 82) hx hb (dk DX10_habit 30 rfl) (by decide) (fun c54 => ?_) (fun c54 => ?_)
    · have hF := if_t c54 hF
      refine lv_iconst (v := (0 : Int32)) hx hb (dk DX10_habit 44 rfl) (by decide) ?_
      cases hF
      exact r_zret (v := false) C hrt hR (dk DX10_habit 45 rfl)
    · have hF := if_f c54 hF
      refine lv_aload_n hx hb (dk DX10_habit 31 rfl) rfl (lv_at hl 1 rfl) ?_
      refine gX10_31 C hR ob0 rf0_4 (dk DX10_habit 32 rfl) ?_
      refine gX10_96 C hR ob3 rf3_12 (dk DX10_habit 33 rfl) ?_
      refine lv_iconst (v := (1 : Int32)) hx hb (dk DX10_habit 34 rfl) (by decide) ?_
      obtain ⟨x6, m4, hz5, hF⟩ := bnd_ex hF
      refine r_callVi (As := [.int (1 : Int32)]) (rest := []) C hR (C_Bk_tally l hl0 G (1 : Int32) m1 _ _ hz5) (by decide) (by decide) ob12 rfl wX10_383 rfl rfl (Nat.le_of_ble_eq_true rfl) hl.1 ⟨Nat.zero_le _, Nat.zero_le _⟩ (dk DX10_habit 35 rfl) (fun H locs hR => ?_)
      refine lv_bipush (v := (10 : Int32)) hx hb (dk DX10_habit 36 rfl) (by decide) ?_
      refine lv_imul hx hb (dk DX10_habit 37 rfl) ?_
      refine lv_iload_n hx hb (dk DX10_habit 38 rfl) rfl (lv_at hl 0 rfl) ?_
      refine lv_bipush (v := (9 : Int32)) hx hb (dk DX10_habit 39 rfl) (by decide) ?_
      refine lv_imul hx hb (dk DX10_habit 40 rfl) ?_
      refine lv_icmp_lt (tgt := 82) hx hb (dk DX10_habit 41 rfl) (by decide) (fun c75 => ?_) (fun c75 => ?_)
      · have hF := if_t c75 hF
        refine lv_iconst (v := (0 : Int32)) hx hb (dk DX10_habit 44 rfl) (by decide) ?_
        cases hF
        exact r_zret (v := false) C hrt hR (dk DX10_habit 45 rfl)
      · have hF := if_f c75 hF
        refine lv_iconst (v := (1 : Int32)) hx hb (dk DX10_habit 42 rfl) (by decide) ?_
        refine lv_goto (tgt := 83) hx hb (dk DX10_habit 43 rfl) (by decide) ?_
        cases hF
        exact r_zret (v := true) C hrt hR (dk DX10_habit 45 rfl)
  · have hF := if_t c13 hF
    refine lv_aload_n hx hb (dk DX10_habit 8 rfl) rfl (lv_at hl 1 rfl) ?_
    refine gX10_31 C hR ob0 rf0_4 (dk DX10_habit 9 rfl) ?_
    refine gX10_96 C hR ob3 rf3_12 (dk DX10_habit 10 rfl) ?_
    refine lv_iconst (v := (3 : Int32)) hx hb (dk DX10_habit 11 rfl) (by decide) ?_
    obtain ⟨x9, m7, hz8, hF⟩ := bnd_ex hF
    refine r_callVi (As := [.int (3 : Int32)]) (rest := []) C hR (C_Bk_tally l hl0 G (3 : Int32) m1 _ _ hz8) (by decide) (by decide) ob12 rfl wX10_383 rfl rfl (Nat.le_of_ble_eq_true rfl) hl.1 ⟨Nat.zero_le _, Nat.zero_le _⟩ (dk DX10_habit 12 rfl) (fun H locs hR => ?_)
    refine lv_istore_n (lv' := [(3, .int x9), (2, .int x3), (0, .ref (G.2.1 + 0)), (1, .int (b2i a1))]) hx hb (dk DX10_habit 13 rfl) rfl hl (by decide) rfl (fun ls hl => ?_)
    refine lv_iload_n hx hb (dk DX10_habit 14 rfl) rfl (lv_at hl 0 rfl) ?_
    refine lv_iload_n hx hb (dk DX10_habit 15 rfl) rfl (lv_at hl 1 rfl) ?_
    refine lv_aload_n hx hb (dk DX10_habit 16 rfl) rfl (lv_at hl 2 rfl) ?_
    refine gX10_31 C hR ob0 rf0_4 (dk DX10_habit 17 rfl) ?_
    refine gX10_96 C hR ob3 rf3_12 (dk DX10_habit 18 rfl) ?_
    refine lv_iconst (v := (5 : Int32)) hx hb (dk DX10_habit 19 rfl) (by decide) ?_
    obtain ⟨x12, m10, hz11, hF⟩ := bnd_ex hF
    refine r_callVi (As := [.int (5 : Int32)]) (rest := [.int x3, .int x9]) C hR (C_Bk_tally l hl0 G (5 : Int32) m7 _ _ hz11) (by decide) (by decide) ob12 rfl wX10_383 rfl rfl (Nat.le_of_ble_eq_true rfl) hl.1 ⟨Nat.zero_le _, Nat.zero_le _⟩ (dk DX10_habit 20 rfl) (fun H locs hR => ?_)
    refine lv_isub hx hb (dk DX10_habit 21 rfl) ?_
    refine lv_iload_n hx hb (dk DX10_habit 22 rfl) rfl (lv_at hl 0 rfl) ?_
    refine lv_isub hx hb (dk DX10_habit 23 rfl) ?_
    refine lv_icmp_ne (tgt := 51) hx hb (dk DX10_habit 24 rfl) (by decide) (fun c44 => ?_) (fun c44 => ?_)
    · have hF := if_f c44 hF
      refine lv_iconst (v := (0 : Int32)) hx hb (dk DX10_habit 27 rfl) (by decide) ?_
      cases hF
      exact r_zret (v := false) C hrt hR (dk DX10_habit 28 rfl)
    · have hF := if_t c44 hF
      refine lv_iconst (v := (1 : Int32)) hx hb (dk DX10_habit 25 rfl) (by decide) ?_
      refine lv_goto (tgt := 52) hx hb (dk DX10_habit 26 rfl) (by decide) ?_
      cases hF
      exact r_zret (v := true) C hrt hR (dk DX10_habit 28 rfl)
set_option maxHeartbeats 4000000 in
set_option maxRecDepth 100000 in
theorem C_T_hardest (l : Launch) (hl0 : l.stackTraces = false) (G : GG) (a1 : Int32) (a2 : Int32) (m0 : Mem) (v : Nat ⊕ Int32) (m' : Mem) (hF : F_T_hardest a1 a2 m0 = some (v, m')) : CtX l G mr0 N0 yX10_hardest cX10_hardest 7 (some .int) 9 [.ref (G.2.1 + 0), .int a1, .int a2] m0 (ouI v) m' := by
  refine CtX_of hl0 (by decide) (Nat.le_of_ble_eq_true rfl) ?_
  intro p e s mid args below meth c ls C hrt hex hl hR
  have hx := C.1.1
  have hb := C.1.2.1
  have hl : lv_has ls 7 [(0, .ref (G.2.1 + 0)), (1, .int a1), (2, .int a2)] := hl
  unfold F_T_hardest at hF
  refine lv_aload_n hx hb (dk DX10_hardest 0 rfl) rfl (lv_at hl 0 rfl) ?_
  refine lv_iload_n hx hb (dk DX10_hardest 1 rfl) rfl (lv_at hl 1 rfl) ?_
  refine lv_iconst (v := (4 : Int32)) hx hb (dk DX10_hardest 2 rfl) (by decide) ?_
  rcases bndX_ex hF with ⟨ke, m1, hz2, hF⟩ | ⟨u3, m1, hz2, hF⟩
  · cases hF
    exact x_passV (As := [.int a1, .int (4 : Int32)]) (rest := []) C hex hR (C_T_mustBeBelow l hl0 G a1 (4 : Int32) m0 _ _ hz2) (by decide) (by decide) ob0 rfl wX10_149 rfl rfl (Nat.le_of_ble_eq_true rfl) hl.1 (dk DX10_hardest 3 rfl)
  · refine x_callVv (As := [.int a1, .int (4 : Int32)]) (rest := []) C hR (C_T_mustBeBelow l hl0 G a1 (4 : Int32) m0 _ _ hz2) (by decide) (by decide) ob0 rfl wX10_149 rfl rfl (Nat.le_of_ble_eq_true rfl) hl.1 ⟨Nat.zero_le _, Nat.zero_le _⟩ (dk DX10_hardest 3 rfl) (fun H locs hR => ?_)
    refine lv_aload_n hx hb (dk DX10_hardest 4 rfl) rfl (lv_at hl 0 rfl) ?_
    refine lv_iload_n hx hb (dk DX10_hardest 5 rfl) rfl (lv_at hl 2 rfl) ?_
    refine lv_iconst (v := (2 : Int32)) hx hb (dk DX10_hardest 6 rfl) (by decide) ?_
    rcases bndX_ex hF with ⟨ke, m4, hz5, hF⟩ | ⟨u6, m4, hz5, hF⟩
    · cases hF
      exact x_passV (As := [.int a2, .int (2 : Int32)]) (rest := []) C hex hR (C_T_mustBeBelow l hl0 G a2 (2 : Int32) m1 _ _ hz5) (by decide) (by decide) ob0 rfl wX10_149 rfl rfl (Nat.le_of_ble_eq_true rfl) hl.1 (dk DX10_hardest 7 rfl)
    · refine x_callVv (As := [.int a2, .int (2 : Int32)]) (rest := []) C hR (C_T_mustBeBelow l hl0 G a2 (2 : Int32) m1 _ _ hz5) (by decide) (by decide) ob0 rfl wX10_149 rfl rfl (Nat.le_of_ble_eq_true rfl) hl.1 ⟨Nat.zero_le _, Nat.zero_le _⟩ (dk DX10_hardest 7 rfl) (fun H locs hR => ?_)
      refine lv_iconst (v := (0 : Int32)) hx hb (dk DX10_hardest 8 rfl) (by decide) ?_
      refine lv_istore_n (lv' := [(3, .int (0 : Int32)), (0, .ref (G.2.1 + 0)), (1, .int a1), (2, .int a2)]) hx hb (dk DX10_hardest 9 rfl) rfl hl (by decide) rfl (fun ls hl => ?_)
      refine lv_iconst (v := (-1 : Int32)) hx hb (dk DX10_hardest 10 rfl) (by decide) ?_
      refine lv_istore (lv' := [(4, .int (-1 : Int32)), (3, .int (0 : Int32)), (0, .ref (G.2.1 + 0)), (1, .int a1), (2, .int a2)]) hx hb (dk DX10_hardest 11 rfl) hl (by decide) rfl (fun ls hl => ?_)
      refine lv_iconst (v := (0 : Int32)) hx hb (dk DX10_hardest 12 rfl) (by decide) ?_
      refine lv_istore (lv' := [(5, .int (0 : Int32)), (4, .int (-1 : Int32)), (3, .int (0 : Int32)), (0, .ref (G.2.1 + 0)), (1, .int a1), (2, .int a2)]) hx hb (dk DX10_hardest 13 rfl) hl (by decide) rfl (fun ls hl => ?_)
      have L20 : ∀ (nf : Nat) (x8 : Int32) (x9 : Int32) (x10 : Int32) (m7 : Mem) (H : Heap) (locs : List Loc) (ls : Array Slot), lv_has ls 7 [(0, .ref (G.2.1 + 0)), (1, .int a1), (2, .int a2), (3, .int x8), (4, .int x9), (5, .int x10)] → Rp G mr0 N0 m7 s H locs → F_T_hardest_L20 a1 a2 nf x8 x9 x10 m7 = some (v, m') → W p l e (rmX 9 (ouI v)) s mid args below meth c H locs 0 0 (ZX below G mr0 N0 (ouI v) m' args s) (F0 mid 20 ls []) := by
        intro nf
        induction nf with
        | zero =>
          intro x8 x9 x10 m7 H locs ls hl hR hF
          rw [F_T_hardest_L20] at hF
          cases hF
        | succ nf ih12 =>
          intro x8 x9 x10 m7 H locs ls hl hR hF
          rw [F_T_hardest_L20] at hF
          refine lv_iload hx hb (dk DX10_hardest 14 rfl) (lv_at hl 5 rfl) ?_
          refine lv_aload_n hx hb (dk DX10_hardest 15 rfl) rfl (lv_at hl 0 rfl) ?_
          refine gX10_31 C hR ob0 rf0_4 (dk DX10_hardest 16 rfl) ?_
          refine gX10_167 C hR ob3 (dk DX10_hardest 17 rfl) ?_
          refine lv_icmp_ge (tgt := 65) hx hb (dk DX10_hardest 18 rfl) (by decide) (fun c29 => ?_) (fun c29 => ?_)
          · have hF := if_t c29 hF
            refine lv_iload_n hx hb (dk DX10_hardest 35 rfl) rfl (lv_at hl 3 rfl) ?_
            cases hF
            exact x_iret (v := x8) C hrt hR (dk DX10_hardest 36 rfl)
          · have hF := if_f c29 hF
            refine lv_aload_n hx hb (dk DX10_hardest 19 rfl) rfl (lv_at hl 0 rfl) ?_
            refine gX10_31 C hR ob0 rf0_4 (dk DX10_hardest 20 rfl) ?_
            refine lv_iload hx hb (dk DX10_hardest 21 rfl) (lv_at hl 5 rfl) ?_
            refine lv_iload_n hx hb (dk DX10_hardest 22 rfl) rfl (lv_at hl 1 rfl) ?_
            refine lv_iload_n hx hb (dk DX10_hardest 23 rfl) rfl (lv_at hl 2 rfl) ?_
            obtain ⟨x15, m13, hz14, hF⟩ := bnd_ex hF
            refine r_callVi (As := [.int x10, .int a1, .int a2]) (rest := []) C hR (C_Gr_levelOf l hl0 G x10 a1 a2 m7 _ _ hz14) (by decide) (by decide) ob3 rfl wX10_187 rfl rfl (Nat.le_of_ble_eq_true rfl) hl.1 ⟨Nat.zero_le _, Nat.zero_le _⟩ (dk DX10_hardest 24 rfl) (fun H locs hR => ?_)
            refine lv_istore (lv' := [(6, .int x15), (0, .ref (G.2.1 + 0)), (1, .int a1), (2, .int a2), (3, .int x8), (4, .int x9), (5, .int x10)]) hx hb (dk DX10_hardest 25 rfl) hl (by decide) rfl (fun ls hl => ?_)
            refine lv_iload hx hb (dk DX10_hardest 26 rfl) (lv_at hl 0 rfl) ?_
            refine lv_iload hx hb (dk DX10_hardest 27 rfl) (lv_at hl 5 rfl) ?_
            obtain ⟨k59_18, ek59_18, hF⟩ := lt_ex hF
            have J59 : ∀ (x17 : Int32) (x18 : Int32) (m16 : Mem) (H : Heap) (locs : List Loc) (ls : Array Slot), lv_has ls 7 [(0, .ref (G.2.1 + 0)), (1, .int a1), (2, .int a2), (3, .int x17), (4, .int x18), (5, .int x10)] → Rp G mr0 N0 m16 s H locs → k59_18 x17 x18 m16 = some (v, m') → W p l e (rmX 9 (ouI v)) s mid args below meth c H locs 0 0 (ZX below G mr0 N0 (ouI v) m' args s) (F0 mid 59 ls []) := by
              intro x17 x18 m16 H locs ls hl hR hF
              rw [ek59_18] at hF
              obtain ⟨x19, ex19, hF⟩ := lt_ex hF
              refine lv_iinc (v := x19) (lv' := [(5, .int x19), (0, .ref (G.2.1 + 0)), (1, .int a1), (2, .int a2), (3, .int x17), (4, .int x18)]) hx hb (dk DX10_hardest 33 rfl) hl (k := 5) rfl (by rw [ex19]; rfl) (by decide) rfl (fun ls hl => ?_)
              refine lv_goto (tgt := 20) hx hb (dk DX10_hardest 34 rfl) (by decide) ?_
              exact ih12 x17 x18 x19 m16 _ _ ls (lv_sub hl [1, 2, 3, 4, 5, 0] rfl) hR hF
            refine lv_icmp_le (tgt := 59) hx hb (dk DX10_hardest 28 rfl) (by decide) (fun c49 => ?_) (fun c49 => ?_)
            · have hF := if_t c49 hF
              exact J59 x8 x9 m13 _ _ ls (lv_sub hl [1, 2, 3, 4, 5, 6] rfl) hR hF
            · have hF := if_f c49 hF
              refine lv_iload hx hb (dk DX10_hardest 29 rfl) (lv_at hl 0 rfl) ?_
              refine lv_istore (lv' := [(4, .int x15), (6, .int x15), (0, .ref (G.2.1 + 0)), (1, .int a1), (2, .int a2), (3, .int x8), (5, .int x10)]) hx hb (dk DX10_hardest 30 rfl) hl (by decide) rfl (fun ls hl => ?_)
              refine lv_iload hx hb (dk DX10_hardest 31 rfl) (lv_at hl 6 rfl) ?_
              refine lv_istore_n (lv' := [(3, .int x10), (4, .int x15), (6, .int x15), (0, .ref (G.2.1 + 0)), (1, .int a1), (2, .int a2), (5, .int x10)]) hx hb (dk DX10_hardest 32 rfl) rfl hl (by decide) rfl (fun ls hl => ?_)
              exact J59 x10 x15 m13 _ _ ls (lv_sub hl [3, 4, 5, 0, 1, 6] rfl) hR hF
      exact L20 1000000 (0 : Int32) (-1 : Int32) (0 : Int32) m4 _ _ ls (lv_sub hl [3, 4, 5, 2, 1, 0] rfl) hR hF
set_option maxHeartbeats 4000000 in
set_option maxRecDepth 100000 in
theorem C_T_here (l : Launch) (hl0 : l.stackTraces = false) (G : GG) (a1 : Int32) (m0 : Mem) (v : Nat ⊕ Int64) (m' : Mem) (hF : F_T_here a1 m0 = some (v, m')) : CtX l G mr0 N0 yX10_here cX10_here 2 (some .long) 287 [.ref (G.2.1 + 0), .int a1] m0 (ouL v) m' := by
  refine CtX_of hl0 (by decide) (Nat.le_of_ble_eq_true rfl) ?_
  intro p e s mid args below meth c ls C hrt hex hl hR
  have hx := C.1.1
  have hb := C.1.2.1
  have hl : lv_has ls 2 [(0, .ref (G.2.1 + 0)), (1, .int a1)] := hl
  unfold F_T_here at hF
  refine lv_aload_n hx hb (dk DX10_here 0 rfl) rfl (lv_at hl 0 rfl) ?_
  refine lv_iload_n hx hb (dk DX10_here 1 rfl) rfl (lv_at hl 1 rfl) ?_
  refine lv_iconst (v := (0 : Int32)) hx hb (dk DX10_here 2 rfl) (by decide) ?_
  rcases bndX_ex hF with ⟨ke, m1, hz2, hF⟩ | ⟨y3, m1, hz2, hF⟩
  · cases hF
    exact x_passV (As := [.int a1, .int (b2i false)]) (rest := []) C hex hR (C_T_oddsFromHere l hl0 G a1 false m0 _ _ hz2) (by decide) (by decide) ob0 rfl wX10_298 rfl rfl (Nat.le_of_ble_eq_true rfl) hl.1 (dk DX10_here 3 rfl)
  · refine x_callVl (As := [.int a1, .int (b2i false)]) (rest := []) C hR (C_T_oddsFromHere l hl0 G a1 false m0 _ _ hz2) (by decide) (by decide) ob0 rfl wX10_298 rfl rfl (Nat.le_of_ble_eq_true rfl) hl.1 ⟨Nat.zero_le _, Nat.zero_le _⟩ (dk DX10_here 3 rfl) (fun H locs hR => ?_)
    cases hF
    exact x_lret (v := y3) C hrt hR (dk DX10_here 4 rfl)
set_option maxHeartbeats 4000000 in
set_option maxRecDepth 100000 in
theorem C_T_mustBeChase (l : Launch) (hl0 : l.stackTraces = false) (G : GG) (m0 : Mem) (v : Nat ⊕ Unit) (m' : Mem) (hF : F_T_mustBeChase m0 = some (v, m')) : CtX l G mr0 N0 yX10_mustBeChase cX10_mustBeChase 1 none 8 [.ref (G.2.1 + 0)] m0 (ouV v) m' := by
  refine CtX_of hl0 (by decide) (Nat.le_of_ble_eq_true rfl) ?_
  intro p e s mid args below meth c ls C hrt hex hl hR
  have hx := C.1.1
  have hb := C.1.2.1
  have hl : lv_has ls 1 [(0, .ref (G.2.1 + 0))] := hl
  unfold F_T_mustBeChase at hF
  refine lv_aload_n hx hb (dk DX10_mustBeChase 0 rfl) rfl (lv_at hl 0 rfl) ?_
  refine gX10_37 C hR ob0 rf0_5 (dk DX10_mustBeChase 1 rfl) ?_
  obtain ⟨z3, m1, hz2, hF⟩ := bnd_ex hF
  refine r_callVi (As := []) (rest := []) C hR (C_Ma_isOn l hl0 G m0 _ _ hz2) (by decide) (by decide) ob16 rfl wX10_215 rfl rfl (Nat.le_of_ble_eq_true rfl) hl.1 ⟨Nat.zero_le _, Nat.zero_le _⟩ (dk DX10_mustBeChase 2 rfl) (fun H locs hR => ?_)
  obtain ⟨k21_4, ek21_4, hF⟩ := lt_ex hF
  have J21 : ∀ (m4 : Mem) (H : Heap) (locs : List Loc) (ls : Array Slot), lv_has ls 1 [] → Rp G mr0 N0 m4 s H locs → k21_4  m4 = some (v, m') → W p l e (rmX 8 (ouV v)) s mid args below meth c H locs 0 0 (ZX below G mr0 N0 (ouV v) m' args s) (F0 mid 21 ls []) := by
    intro  m4 H locs ls hl hR hF
    rw [ek21_4] at hF
    cases hF
    exact r_throwW C hex hR tX10_239 strm_X10_425 (by decide) (Nat.le_of_ble_eq_true rfl) hl.1 (dk DX10_mustBeChase 9 rfl) (dk DX10_mustBeChase 10 rfl) (dk DX10_mustBeChase 11 rfl) (dk DX10_mustBeChase 12 rfl) (dk DX10_mustBeChase 13 rfl)
  refine z_ifeq (tgt := 21) hx hb (dk DX10_mustBeChase 3 rfl) (by decide) (fun c7 => ?_) (fun c7 => ?_)
  · have hF := if_f c7 hF
    exact J21 m1 _ _ ls (lv_sub hl [] rfl) hR hF
  · have hF := if_t c7 hF
    refine lv_aload_n hx hb (dk DX10_mustBeChase 4 rfl) rfl (lv_at hl 0 rfl) ?_
    refine gX10_37 C hR ob0 rf0_5 (dk DX10_mustBeChase 5 rfl) ?_
    refine gX10_207 C hR ob16 (dk DX10_mustBeChase 6 rfl) ?_
    refine lv_iconst (v := (3 : Int32)) hx hb (dk DX10_mustBeChase 7 rfl) (by decide) ?_
    refine lv_icmp_eq (tgt := 32) hx hb (dk DX10_mustBeChase 8 rfl) (by decide) (fun c18 => ?_) (fun c18 => ?_)
    · have hF := if_t c18 hF
      cases hF
      exact x_vret C hrt hR (dk DX10_mustBeChase 14 rfl)
    · have hF := if_f c18 hF
      exact J21 m1 _ _ ls (lv_sub hl [] rfl) hR hF
set_option maxHeartbeats 4000000 in
set_option maxRecDepth 100000 in
theorem C_T_hold (l : Launch) (hl0 : l.stackTraces = false) (G : GG) (a1 : Int32) (m0 : Mem) (v : Nat ⊕ Int32) (m' : Mem) (hF : F_T_hold a1 m0 = some (v, m')) : CtX l G mr0 N0 yX10_hold cX10_hold 3 (some .int) 9 [.ref (G.2.1 + 0), .int a1] m0 (ouI v) m' := by
  refine CtX_of hl0 (by decide) (Nat.le_of_ble_eq_true rfl) ?_
  intro p e s mid args below meth c ls C hrt hex hl hR
  have hx := C.1.1
  have hb := C.1.2.1
  have hl : lv_has ls 3 [(0, .ref (G.2.1 + 0)), (1, .int a1)] := hl
  unfold F_T_hold at hF
  refine lv_aload_n hx hb (dk DX10_hold 0 rfl) rfl (lv_at hl 0 rfl) ?_
  refine lv_iload_n hx hb (dk DX10_hold 1 rfl) rfl (lv_at hl 1 rfl) ?_
  refine lv_iconst (v := (4 : Int32)) hx hb (dk DX10_hold 2 rfl) (by decide) ?_
  rcases bndX_ex hF with ⟨ke, m1, hz2, hF⟩ | ⟨u3, m1, hz2, hF⟩
  · cases hF
    exact x_passV (As := [.int a1, .int (4 : Int32)]) (rest := []) C hex hR (C_T_mustBeBelow l hl0 G a1 (4 : Int32) m0 _ _ hz2) (by decide) (by decide) ob0 rfl wX10_149 rfl rfl (Nat.le_of_ble_eq_true rfl) hl.1 (dk DX10_hold 3 rfl)
  · refine x_callVv (As := [.int a1, .int (4 : Int32)]) (rest := []) C hR (C_T_mustBeBelow l hl0 G a1 (4 : Int32) m0 _ _ hz2) (by decide) (by decide) ob0 rfl wX10_149 rfl rfl (Nat.le_of_ble_eq_true rfl) hl.1 ⟨Nat.zero_le _, Nat.zero_le _⟩ (dk DX10_hold 3 rfl) (fun H locs hR => ?_)
    refine lv_aload_n hx hb (dk DX10_hold 4 rfl) rfl (lv_at hl 0 rfl) ?_
    rcases bndX_ex hF with ⟨ke, m4, hz5, hF⟩ | ⟨u6, m4, hz5, hF⟩
    · cases hF
      exact x_passV (As := []) (rest := []) C hex hR (C_T_mustBeChase l hl0 G m1 _ _ hz5) (by decide) (by decide) ob0 rfl wX10_260 rfl rfl (Nat.le_of_ble_eq_true rfl) hl.1 (dk DX10_hold 5 rfl)
    · refine x_callVv (As := []) (rest := []) C hR (C_T_mustBeChase l hl0 G m1 _ _ hz5) (by decide) (by decide) ob0 rfl wX10_260 rfl rfl (Nat.le_of_ble_eq_true rfl) hl.1 ⟨Nat.zero_le _, Nat.zero_le _⟩ (dk DX10_hold 5 rfl) (fun H locs hR => ?_)
      refine lv_aload_n hx hb (dk DX10_hold 6 rfl) rfl (lv_at hl 0 rfl) ?_
      refine gX10_47 C hR ob0 rf0_7 (dk DX10_hold 7 rfl) ?_
      refine lv_aload_n hx hb (dk DX10_hold 8 rfl) rfl (lv_at hl 0 rfl) ?_
      refine gX10_37 C hR ob0 rf0_5 (dk DX10_hold 9 rfl) ?_
      obtain ⟨u9, m7, hz8, hF⟩ := bnd_ex hF
      refine r_callVv (As := [.ref (G.2.1 + 16)]) (rest := []) C hR (C_Pa_remember l hl0 G m4 _ _ hz8) (by decide) (by decide) ob20 rfl wX10_240 rfl rfl (Nat.le_of_ble_eq_true rfl) hl.1 ⟨Nat.zero_le _, Nat.zero_le _⟩ (dk DX10_hold 10 rfl) (fun H locs hR => ?_)
      refine lv_aload_n hx hb (dk DX10_hold 11 rfl) rfl (lv_at hl 0 rfl) ?_
      refine gX10_37 C hR ob0 rf0_5 (dk DX10_hold 12 rfl) ?_
      obtain ⟨x12, m10, hz11, hF⟩ := bnd_ex hF
      refine r_callVi (As := []) (rest := []) C hR (C_Ma_batting l hl0 G m7 _ _ hz11) (by decide) (by decide) ob16 rfl wX10_219 rfl rfl (Nat.le_of_ble_eq_true rfl) hl.1 ⟨Nat.zero_le _, Nat.zero_le _⟩ (dk DX10_hold 13 rfl) (fun H locs hR => ?_)
      refine lv_istore_n (lv' := [(2, .int x12), (0, .ref (G.2.1 + 0)), (1, .int a1)]) hx hb (dk DX10_hold 14 rfl) rfl hl (by decide) rfl (fun ls hl => ?_)
      refine lv_aload_n hx hb (dk DX10_hold 15 rfl) rfl (lv_at hl 1 rfl) ?_
      refine gX10_37 C hR ob0 rf0_5 (dk DX10_hold 16 rfl) ?_
      refine lv_aload_n hx hb (dk DX10_hold 17 rfl) rfl (lv_at hl 1 rfl) ?_
      refine gX10_31 C hR ob0 rf0_4 (dk DX10_hold 18 rfl) ?_
      refine lv_iload_n hx hb (dk DX10_hold 19 rfl) rfl (lv_at hl 2 rfl) ?_
      refine lv_iconst (v := (1 : Int32)) hx hb (dk DX10_hold 20 rfl) (by decide) ?_
      obtain ⟨u15, m13, hz14, hF⟩ := bnd_ex hF
      refine r_callVv (As := [.ref (G.2.1 + 3), .int a1, .int (b2i true)]) (rest := []) C hR (C_Ma_playSession l hl0 G a1 true m10 _ _ hz14) (by decide) (by decide) ob16 rfl wX10_253 rfl rfl (Nat.le_of_ble_eq_true rfl) hl.1 ⟨Nat.zero_le _, Nat.zero_le _⟩ (dk DX10_hold 21 rfl) (fun H locs hR => ?_)
      refine lv_aload_n hx hb (dk DX10_hold 22 rfl) rfl (lv_at hl 1 rfl) ?_
      refine gX10_37 C hR ob0 rf0_5 (dk DX10_hold 23 rfl) ?_
      refine lv_iload_n hx hb (dk DX10_hold 24 rfl) rfl (lv_at hl 0 rfl) ?_
      obtain ⟨x18, m16, hz17, hF⟩ := bnd_ex hF
      refine r_callVi (As := [.int x12]) (rest := []) C hR (C_Ma_leadOf l hl0 G x12 m13 _ _ hz17) (by decide) (by decide) ob16 rfl wX10_257 rfl rfl (Nat.le_of_ble_eq_true rfl) hl.1 ⟨Nat.zero_le _, Nat.zero_le _⟩ (dk DX10_hold 25 rfl) (fun H locs hR => ?_)
      cases hF
      exact x_iret (v := x18) C hrt hR (dk DX10_hold 26 rfl)
set_option maxHeartbeats 4000000 in
set_option maxRecDepth 100000 in
theorem C_T_holds (l : Launch) (hl0 : l.stackTraces = false) (G : GG) (a1 : Int32) (a2 : Bool) (a3 : Int32) (a4 : Int32) (m0 : Mem) (v : Nat ⊕ Bool) (m' : Mem) (hF : F_T_holds a1 a2 a3 a4 m0 = some (v, m')) : CtX l G mr0 N0 yX10_holds cX10_holds 5 (some .boolean) 10 [.ref (G.2.1 + 0), .int a1, .int (b2i a2), .int a3, .int a4] m0 (ouZ v) m' := by
  refine CtX_of hl0 (by decide) (Nat.le_of_ble_eq_true rfl) ?_
  intro p e s mid args below meth c ls C hrt hex hl hR
  have hx := C.1.1
  have hb := C.1.2.1
  have hl : lv_has ls 5 [(0, .ref (G.2.1 + 0)), (1, .int a1), (2, .int (b2i a2)), (3, .int a3), (4, .int a4)] := hl
  unfold F_T_holds at hF
  refine lv_aload_n hx hb (dk DX10_holds 0 rfl) rfl (lv_at hl 0 rfl) ?_
  refine lv_iload_n hx hb (dk DX10_holds 1 rfl) rfl (lv_at hl 1 rfl) ?_
  refine lv_iconst (v := (3 : Int32)) hx hb (dk DX10_holds 2 rfl) (by decide) ?_
  refine lv_iload_n hx hb (dk DX10_holds 3 rfl) rfl (lv_at hl 3 rfl) ?_
  refine lv_iload hx hb (dk DX10_holds 4 rfl) (lv_at hl 4 rfl) ?_
  rcases bndX_ex hF with ⟨ke, m1, hz2, hF⟩ | ⟨u3, m1, hz2, hF⟩
  · cases hF
    exact x_passV (As := [.int a1, .int (3 : Int32), .int a3, .int a4]) (rest := []) C hex hR (C_T_mustBeState l hl0 G a1 (3 : Int32) a3 a4 m0 _ _ hz2) (by decide) (by decide) ob0 rfl wX10_364 rfl rfl (Nat.le_of_ble_eq_true rfl) hl.1 (dk DX10_holds 5 rfl)
  · refine x_callVv (As := [.int a1, .int (3 : Int32), .int a3, .int a4]) (rest := []) C hR (C_T_mustBeState l hl0 G a1 (3 : Int32) a3 a4 m0 _ _ hz2) (by decide) (by decide) ob0 rfl wX10_364 rfl rfl (Nat.le_of_ble_eq_true rfl) hl.1 ⟨Nat.zero_le _, Nat.zero_le _⟩ (dk DX10_holds 5 rfl) (fun H locs hR => ?_)
    refine lv_aload_n hx hb (dk DX10_holds 6 rfl) rfl (lv_at hl 0 rfl) ?_
    refine gX10_23 C hR ob0 rf0_3 (dk DX10_holds 7 rfl) ?_
    refine lv_iconst (v := (0 : Int32)) hx hb (dk DX10_holds 8 rfl) (by decide) ?_
    refine lv_aload_n hx hb (dk DX10_holds 9 rfl) rfl (lv_at hl 0 rfl) ?_
    refine gX10_31 C hR ob0 rf0_4 (dk DX10_holds 10 rfl) ?_
    refine gX10_200 C hR ob3 (dk DX10_holds 11 rfl) ?_
    refine lv_iconst (v := (0 : Int32)) hx hb (dk DX10_holds 12 rfl) (by decide) ?_
    obtain ⟨u6, m4, hz5, hF⟩ := bnd_ex hF
    refine r_callVv (As := [.int (0 : Int32), .int (gI m1 3 5), .int (b2i false)]) (rest := []) C hR (C_Od_ready l hl0 G (0 : Int32) (gI m1 3 5) false m1 _ _ hz5) (by decide) (by decide) ob2 rfl wX10_327 rfl rfl (Nat.le_of_ble_eq_true rfl) hl.1 ⟨Nat.zero_le _, Nat.zero_le _⟩ (dk DX10_holds 13 rfl) (fun H locs hR => ?_)
    refine lv_aload_n hx hb (dk DX10_holds 14 rfl) rfl (lv_at hl 0 rfl) ?_
    refine gX10_23 C hR ob0 rf0_3 (dk DX10_holds 15 rfl) ?_
    refine lv_iload_n hx hb (dk DX10_holds 16 rfl) rfl (lv_at hl 1 rfl) ?_
    refine lv_iconst (v := (3 : Int32)) hx hb (dk DX10_holds 17 rfl) (by decide) ?_
    refine lv_iload_n hx hb (dk DX10_holds 18 rfl) rfl (lv_at hl 2 rfl) ?_
    obtain ⟨x9, m7, hz8, hF⟩ := bnd_ex hF
    refine r_callSi (As := [.int (3 : Int32), .int (b2i a2)]) (rest := [.int a1, .ref (G.2.1 + 2)]) C hR (C_Od_kindOf l hl0 G (3 : Int32) a2 m4 _ _ hz8) (by decide) (by decide) wX10_368 rfl rfl (Nat.le_of_ble_eq_true rfl) hl.1 ⟨Nat.zero_le _, Nat.zero_le _⟩ (dk DX10_holds 19 rfl) (fun H locs hR => ?_)
    refine lv_iload_n hx hb (dk DX10_holds 20 rfl) rfl (lv_at hl 3 rfl) ?_
    refine lv_iload hx hb (dk DX10_holds 21 rfl) (lv_at hl 4 rfl) ?_
    obtain ⟨z12, m10, hz11, hF⟩ := bnd_ex hF
    refine r_callVi (As := [.int a1, .int x9, .int a3, .int a4]) (rest := []) C hR (C_Od_choosesTold l hl0 G a1 x9 a3 a4 m7 _ _ hz11) (by decide) (by decide) ob2 rfl wX10_376 rfl rfl (Nat.le_of_ble_eq_true rfl) hl.1 ⟨Nat.zero_le _, Nat.zero_le _⟩ (dk DX10_holds 22 rfl) (fun H locs hR => ?_)
    cases hF
    exact x_zret (v := z12) C hrt hR (dk DX10_holds 23 rfl)
