set_option maxHeartbeats 4000000 in
set_option maxRecDepth 100000 in
theorem C_GT_keep (l : Launch) (hl0 : l.stackTraces = false) (G : GG) (a1 : Int32) (a2 : Int32) (a3 : Int32) (a4 : Int32) (a5 : Int32) (m0 : Mem) (v : Unit) (m' : Mem) (hF : F_GT_keep a1 a2 a3 a4 a5 m0 = some (v, m')) : Ct l G mr0 N0 yX2_keep cX2_keep 7 none 1 [.ref (G.2.1 + 46), .int a1, .int a2, .int a3, .int a4, .int a5] m0 none m' := by
  refine Ct_of hl0 (by decide) (Nat.le_of_ble_eq_true rfl) ?_
  intro p e s mid args below meth c ls C hrt hl hR
  have hx := C.1.1
  have hb := C.1.2.1
  have hl : lv_has ls 7 [(0, .ref (G.2.1 + 46)), (1, .int a1), (2, .int a2), (3, .int a3), (4, .int a4), (5, .int a5)] := hl
  unfold F_GT_keep at hF
  refine lv_aload_n hx hb (dk DX2_keep 0 rfl) rfl (lv_at hl 0 rfl) ?_
  refine gX2_15 C hR ob46 (dk DX2_keep 1 rfl) ?_
  refine lv_iconst (v := (5 : Int32)) hx hb (dk DX2_keep 2 rfl) (by decide) ?_
  refine lv_imul hx hb (dk DX2_keep 3 rfl) ?_
  refine lv_topi (fun xq1 exq1 => ?_)
  have hF := lt_at exq1 hF
  refine lv_istore (lv' := [(6, .int xq1), (0, .ref (G.2.1 + 46)), (1, .int a1), (2, .int a2), (3, .int a3), (4, .int a4), (5, .int a5)]) hx hb (dk DX2_keep 4 rfl) hl (by decide) rfl (fun ls hl => ?_)
  refine lv_iload hx hb (dk DX2_keep 5 rfl) (lv_at hl 0 rfl) ?_
  refine lv_if_lt (tgt := 82) hx hb (dk DX2_keep 6 rfl) (by decide) (fun c10 => ?_) (fun c10 => ?_)
  · have hF := if_t c10 hF
    cases hF
    exact r_vret C hrt hR (dk DX2_keep 51 rfl)
  · have hF := if_f c10 hF
    refine lv_iload hx hb (dk DX2_keep 7 rfl) (lv_at hl 0 rfl) ?_
    refine lv_iconst (v := (5 : Int32)) hx hb (dk DX2_keep 8 rfl) (by decide) ?_
    refine lv_iadd hx hb (dk DX2_keep 9 rfl) ?_
    refine lv_bipush (v := (70 : Int32)) hx hb (dk DX2_keep 10 rfl) (by decide) ?_
    refine lv_icmp_gt (tgt := 82) hx hb (dk DX2_keep 11 rfl) (by decide) (fun c19 => ?_) (fun c19 => ?_)
    · have hF := if_t c19 hF
      cases hF
      exact r_vret C hrt hR (dk DX2_keep 51 rfl)
    · have hF := if_f c19 hF
      refine lv_aload_n hx hb (dk DX2_keep 12 rfl) rfl (lv_at hl 1 rfl) ?_
      refine gX2_11 C hR ob46 rf46_7 (dk DX2_keep 13 rfl) ?_
      refine lv_iload hx hb (dk DX2_keep 14 rfl) (lv_at hl 0 rfl) ?_
      refine lv_iload_n hx hb (dk DX2_keep 15 rfl) rfl (lv_at hl 2 rfl) ?_
      obtain ⟨hq3, hF⟩ := ckB_ex hF
      refine r_iast C hR ob51 hq3 (dk DX2_keep 16 rfl) (fun H locs hR => ?_)
      obtain ⟨mq2, emq2, hF⟩ := lt_ex hF
      have hR := Rp_at emq2 hR
      refine lv_aload_n hx hb (dk DX2_keep 17 rfl) rfl (lv_at hl 1 rfl) ?_
      refine gX2_11 C hR ob46 rf46_7 (dk DX2_keep 18 rfl) ?_
      refine lv_iload hx hb (dk DX2_keep 19 rfl) (lv_at hl 0 rfl) ?_
      refine lv_iconst (v := (1 : Int32)) hx hb (dk DX2_keep 20 rfl) (by decide) ?_
      refine lv_iadd hx hb (dk DX2_keep 21 rfl) ?_
      refine lv_iload_n hx hb (dk DX2_keep 22 rfl) rfl (lv_at hl 3 rfl) ?_
      obtain ⟨hq5, hF⟩ := ckB_ex hF
      refine r_iast C hR ob51 hq5 (dk DX2_keep 23 rfl) (fun H locs hR => ?_)
      obtain ⟨mq4, emq4, hF⟩ := lt_ex hF
      have hR := Rp_at emq4 hR
      refine lv_aload_n hx hb (dk DX2_keep 24 rfl) rfl (lv_at hl 1 rfl) ?_
      refine gX2_11 C hR ob46 rf46_7 (dk DX2_keep 25 rfl) ?_
      refine lv_iload hx hb (dk DX2_keep 26 rfl) (lv_at hl 0 rfl) ?_
      refine lv_iconst (v := (2 : Int32)) hx hb (dk DX2_keep 27 rfl) (by decide) ?_
      refine lv_iadd hx hb (dk DX2_keep 28 rfl) ?_
      refine lv_iload_n hx hb (dk DX2_keep 29 rfl) rfl (lv_at hl 4 rfl) ?_
      obtain ⟨hq7, hF⟩ := ckB_ex hF
      refine r_iast C hR ob51 hq7 (dk DX2_keep 30 rfl) (fun H locs hR => ?_)
      obtain ⟨mq6, emq6, hF⟩ := lt_ex hF
      have hR := Rp_at emq6 hR
      refine lv_aload_n hx hb (dk DX2_keep 31 rfl) rfl (lv_at hl 1 rfl) ?_
      refine gX2_11 C hR ob46 rf46_7 (dk DX2_keep 32 rfl) ?_
      refine lv_iload hx hb (dk DX2_keep 33 rfl) (lv_at hl 0 rfl) ?_
      refine lv_iconst (v := (3 : Int32)) hx hb (dk DX2_keep 34 rfl) (by decide) ?_
      refine lv_iadd hx hb (dk DX2_keep 35 rfl) ?_
      refine lv_iload hx hb (dk DX2_keep 36 rfl) (lv_at hl 5 rfl) ?_
      obtain ⟨hq9, hF⟩ := ckB_ex hF
      refine r_iast C hR ob51 hq9 (dk DX2_keep 37 rfl) (fun H locs hR => ?_)
      obtain ⟨mq8, emq8, hF⟩ := lt_ex hF
      have hR := Rp_at emq8 hR
      refine lv_aload_n hx hb (dk DX2_keep 38 rfl) rfl (lv_at hl 1 rfl) ?_
      refine gX2_11 C hR ob46 rf46_7 (dk DX2_keep 39 rfl) ?_
      refine lv_iload hx hb (dk DX2_keep 40 rfl) (lv_at hl 0 rfl) ?_
      refine lv_iconst (v := (4 : Int32)) hx hb (dk DX2_keep 41 rfl) (by decide) ?_
      refine lv_iadd hx hb (dk DX2_keep 42 rfl) ?_
      refine lv_iload hx hb (dk DX2_keep 43 rfl) (lv_at hl 6 rfl) ?_
      obtain ⟨hq11, hF⟩ := ckB_ex hF
      refine r_iast C hR ob51 hq11 (dk DX2_keep 44 rfl) (fun H locs hR => ?_)
      obtain ⟨mq10, emq10, hF⟩ := lt_ex hF
      have hR := Rp_at emq10 hR
      refine lv_aload_n hx hb (dk DX2_keep 45 rfl) rfl (lv_at hl 1 rfl) ?_
      refine lv_dup hx hb (dk DX2_keep 46 rfl) rfl ?_
      refine gX2_15 C hR ob46 (dk DX2_keep 47 rfl) ?_
      refine lv_iconst (v := (1 : Int32)) hx hb (dk DX2_keep 48 rfl) (by decide) ?_
      refine lv_iadd hx hb (dk DX2_keep 49 rfl) ?_
      refine pX2_15 (x := (gI mq10 46 8) + (1 : Int32)) C hR ob46 (dk DX2_keep 50 rfl) (fun H locs hR => ?_)
      obtain ⟨mq12, emq12, hF⟩ := lt_ex hF
      have hR := Rp_at emq12 hR
      cases hF
      exact r_vret C hrt hR (dk DX2_keep 51 rfl)
set_option maxHeartbeats 4000000 in
set_option maxRecDepth 100000 in
theorem C_GT_readBook (l : Launch) (hl0 : l.stackTraces = false) (G : GG) (m0 : Mem) (v : Unit) (m' : Mem) (hF : F_GT_readBook m0 = some (v, m')) : Ct l G mr0 N0 yX2_readBook cX2_readBook 4 none 3 [.ref (G.2.1 + 46)] m0 none m' := by
  refine Ct_of hl0 (by decide) (Nat.le_of_ble_eq_true rfl) ?_
  intro p e s mid args below meth c ls C hrt hl hR
  have hx := C.1.1
  have hb := C.1.2.1
  have hl : lv_has ls 4 [(0, .ref (G.2.1 + 46))] := hl
  unfold F_GT_readBook at hF
  refine lv_aload_n hx hb (dk DX2_readBook 0 rfl) rfl (lv_at hl 0 rfl) ?_
  refine lv_iconst (v := (0 : Int32)) hx hb (dk DX2_readBook 1 rfl) (by decide) ?_
  refine lv_iconst (v := (1 : Int32)) hx hb (dk DX2_readBook 2 rfl) (by decide) ?_
  obtain ⟨xq3, mq1, hzq2, hF⟩ := bnd_ex hF
  refine r_callUi (As := [.int (0 : Int32), .int (1 : Int32)]) (rest := []) C hR (C_Tx_numberG l hl0 G (0 : Int32) (1 : Int32) m0 _ _ hzq2) (by decide) (by decide) ob46 rfl wX2_39_2 rfl rfl (Nat.le_of_ble_eq_true rfl) hl.1 ⟨Nat.zero_le _, Nat.zero_le _⟩ (dk DX2_readBook 3 rfl) (fun H locs hR => ?_)
  refine lv_istore_n (lv' := [(1, .int xq3), (0, .ref (G.2.1 + 46))]) hx hb (dk DX2_readBook 4 rfl) rfl hl (by decide) rfl (fun ls hl => ?_)
  refine lv_aload_n hx hb (dk DX2_readBook 5 rfl) rfl (lv_at hl 1 rfl) ?_
  refine lv_iconst (v := (0 : Int32)) hx hb (dk DX2_readBook 6 rfl) (by decide) ?_
  refine lv_iconst (v := (1 : Int32)) hx hb (dk DX2_readBook 7 rfl) (by decide) ?_
  obtain ⟨xq6, mq4, hzq5, hF⟩ := bnd_ex hF
  refine r_callUi (As := [.int (0 : Int32), .int (1 : Int32)]) (rest := []) C hR (C_Tx_numberG l hl0 G (0 : Int32) (1 : Int32) mq1 _ _ hzq5) (by decide) (by decide) ob46 rfl wX2_39_2 rfl rfl (Nat.le_of_ble_eq_true rfl) hl.1 ⟨Nat.zero_le _, Nat.zero_le _⟩ (dk DX2_readBook 8 rfl) (fun H locs hR => ?_)
  refine lv_istore_n (lv' := [(2, .int xq6), (1, .int xq3), (0, .ref (G.2.1 + 46))]) hx hb (dk DX2_readBook 9 rfl) rfl hl (by decide) rfl (fun ls hl => ?_)
  refine lv_aload_n hx hb (dk DX2_readBook 10 rfl) rfl (lv_at hl 2 rfl) ?_
  refine lv_iconst (v := (0 : Int32)) hx hb (dk DX2_readBook 11 rfl) (by decide) ?_
  refine lv_iconst (v := (2 : Int32)) hx hb (dk DX2_readBook 12 rfl) (by decide) ?_
  obtain ⟨xq9, mq7, hzq8, hF⟩ := bnd_ex hF
  refine r_callUi (As := [.int (0 : Int32), .int (2 : Int32)]) (rest := []) C hR (C_Tx_numberG l hl0 G (0 : Int32) (2 : Int32) mq4 _ _ hzq8) (by decide) (by decide) ob46 rfl wX2_39_2 rfl rfl (Nat.le_of_ble_eq_true rfl) hl.1 ⟨Nat.zero_le _, Nat.zero_le _⟩ (dk DX2_readBook 13 rfl) (fun H locs hR => ?_)
  refine lv_istore_n (lv' := [(3, .int xq9), (2, .int xq6), (1, .int xq3), (0, .ref (G.2.1 + 46))]) hx hb (dk DX2_readBook 14 rfl) rfl hl (by decide) rfl (fun ls hl => ?_)
  refine lv_aload_n hx hb (dk DX2_readBook 15 rfl) rfl (lv_at hl 3 rfl) ?_
  refine lv_dup hx hb (dk DX2_readBook 16 rfl) rfl ?_
  refine gX2_19 C hR ob46 (dk DX2_readBook 17 rfl) ?_
  refine lv_iconst (v := (1 : Int32)) hx hb (dk DX2_readBook 18 rfl) (by decide) ?_
  refine lv_iadd hx hb (dk DX2_readBook 19 rfl) ?_
  refine pX2_19 (x := (gI mq7 46 9) + (1 : Int32)) C hR ob46 (dk DX2_readBook 20 rfl) (fun H locs hR => ?_)
  obtain ⟨mq10, emq10, hF⟩ := lt_ex hF
  have hR := Rp_at emq10 hR
  refine lv_aload_n hx hb (dk DX2_readBook 21 rfl) rfl (lv_at hl 3 rfl) ?_
  refine lv_bipush (v := (8 : Int32)) hx hb (dk DX2_readBook 22 rfl) (by decide) ?_
  refine lv_iload_n hx hb (dk DX2_readBook 23 rfl) rfl (lv_at hl 2 rfl) ?_
  refine lv_iload_n hx hb (dk DX2_readBook 24 rfl) rfl (lv_at hl 1 rfl) ?_
  refine lv_iload_n hx hb (dk DX2_readBook 25 rfl) rfl (lv_at hl 0 rfl) ?_
  refine lv_iconst (v := (0 : Int32)) hx hb (dk DX2_readBook 26 rfl) (by decide) ?_
  obtain ⟨uq13, mq11, hzq12, hF⟩ := bnd_ex hF
  refine r_callVv (As := [.int (8 : Int32), .int xq3, .int xq6, .int xq9, .int (0 : Int32)]) (rest := []) C hR (C_GT_keep l hl0 G (8 : Int32) xq3 xq6 xq9 (0 : Int32) mq10 _ _ hzq12) (by decide) (by decide) ob46 rfl wX2_43 rfl rfl (Nat.le_of_ble_eq_true rfl) hl.1 ⟨Nat.zero_le _, Nat.zero_le _⟩ (dk DX2_readBook 27 rfl) (fun H locs hR => ?_)
  cases hF
  exact r_vret C hrt hR (dk DX2_readBook 28 rfl)
set_option maxHeartbeats 4000000 in
set_option maxRecDepth 100000 in
theorem C_Tx_isAtNumberG (l : Launch) (hl0 : l.stackTraces = false) (G : GG) (m0 : Mem) (v : Bool) (m' : Mem) (hF : F_Tx_isAtNumberG m0 = some (v, m')) : Ct l G mr0 N0 yX9_isAtNumber cX9_isAtNumber 1 (some .boolean) 2 [.ref (G.2.1 + 46)] m0 (some (.int (b2i v))) m' := by
  refine Ct_of hl0 (by decide) (Nat.le_of_ble_eq_true rfl) ?_
  intro p e s mid args below meth c ls C hrt hl hR
  have hx := C.1.1
  have hb := C.1.2.1
  have hl : lv_has ls 1 [(0, .ref (G.2.1 + 46))] := hl
  unfold F_Tx_isAtNumberG at hF
  refine lv_aload_n hx hb (dk DX9_isAtNumber 0 rfl) rfl (lv_at hl 0 rfl) ?_
  refine lv_iconst (v := (1 : Int32)) hx hb (dk DX9_isAtNumber 1 rfl) (by decide) ?_
  obtain ⟨zq3, mq1, hzq2, hF⟩ := bnd_ex hF
  refine r_callVi (As := [.int (1 : Int32)]) (rest := []) C hR (C_Tx_isAtG l hl0 G (1 : Int32) m0 _ _ hzq2) (by decide) (by decide) ob46 rfl wX9_44_2 rfl rfl (Nat.le_of_ble_eq_true rfl) hl.1 ⟨Nat.zero_le _, Nat.zero_le _⟩ (dk DX9_isAtNumber 2 rfl) (fun H locs hR => ?_)
  cases hF
  exact r_zret C hrt hR (dk DX9_isAtNumber 3 rfl)
set_option maxHeartbeats 4000000 in
set_option maxRecDepth 100000 in
theorem C_GT_readBits (l : Launch) (hl0 : l.stackTraces = false) (G : GG) (m0 : Mem) (v : Int32) (m' : Mem) (hF : F_GT_readBits m0 = some (v, m')) : Ct l G mr0 N0 yX2_readBits cX2_readBits 3 (some .int) 3 [.ref (G.2.1 + 46)] m0 (some (.int v)) m' := by
  refine Ct_of hl0 (by decide) (Nat.le_of_ble_eq_true rfl) ?_
  intro p e s mid args below meth c ls C hrt hl hR
  have hx := C.1.1
  have hb := C.1.2.1
  have hl : lv_has ls 3 [(0, .ref (G.2.1 + 46))] := hl
  unfold F_GT_readBits at hF
  refine lv_iconst (v := (1 : Int32)) hx hb (dk DX2_readBits 0 rfl) (by decide) ?_
  refine lv_aload_n hx hb (dk DX2_readBits 1 rfl) rfl (lv_at hl 0 rfl) ?_
  refine lv_iconst (v := (0 : Int32)) hx hb (dk DX2_readBits 2 rfl) (by decide) ?_
  refine lv_bipush (v := (8 : Int32)) hx hb (dk DX2_readBits 3 rfl) (by decide) ?_
  obtain ⟨xq3, mq1, hzq2, hF⟩ := bnd_ex hF
  refine r_callUi (As := [.int (0 : Int32), .int (8 : Int32)]) (rest := [.int (1 : Int32)]) C hR (C_Tx_numberG l hl0 G (0 : Int32) (8 : Int32) m0 _ _ hzq2) (by decide) (by decide) ob46 rfl wX2_39_2 rfl rfl (Nat.le_of_ble_eq_true rfl) hl.1 ⟨Nat.zero_le _, Nat.zero_le _⟩ (dk DX2_readBits 4 rfl) (fun H locs hR => ?_)
  refine lv_ishl hx hb (dk DX2_readBits 5 rfl) ?_
  refine lv_topi (fun xq4 exq4 => ?_)
  have hF := lt_at exq4 hF
  refine lv_istore_n (lv' := [(1, .int xq4), (0, .ref (G.2.1 + 46))]) hx hb (dk DX2_readBits 6 rfl) rfl hl (by decide) rfl (fun ls hl => ?_)
  refine lv_iconst (v := (0 : Int32)) hx hb (dk DX2_readBits 7 rfl) (by decide) ?_
  refine lv_istore_n (lv' := [(2, .int (0 : Int32)), (1, .int xq4), (0, .ref (G.2.1 + 46))]) hx hb (dk DX2_readBits 8 rfl) rfl hl (by decide) rfl (fun ls hl => ?_)
  have L12 : ∀ (nf : Nat) (xq6 : Int32) (xq7 : Int32) (mq5 : Mem) (H : Heap) (locs : List Loc) (ls : Array Slot), lv_has ls 3 [(0, .ref (G.2.1 + 46)), (1, .int xq6), (2, .int xq7)] → Rp G mr0 N0 mq5 s H locs → F_GT_readBits_L12 nf xq6 xq7 mq5 = some (v, m') → W p l e (rmD 3) s mid args below meth c H locs 0 0 (MQ below (QR G mr0 N0 (some (.int v)) m') args s 0 0 (fun q => G.2.1 ≤ q)) (F0 mid 12 ls []) := by
    intro nf
    induction nf with
    | zero =>
      intro xq6 xq7 mq5 H locs ls hl hR hF
      rw [F_GT_readBits_L12] at hF
      cases hF
    | succ nf ihq9 =>
      intro xq6 xq7 mq5 H locs ls hl hR hF
      rw [F_GT_readBits_L12] at hF
      refine lv_iload_n hx hb (dk DX2_readBits 9 rfl) rfl (lv_at hl 2 rfl) ?_
      refine lv_sipush (v := (400 : Int32)) hx hb (dk DX2_readBits 10 rfl) (by decide) ?_
      refine lv_icmp_ge (tgt := 44) hx hb (dk DX2_readBits 11 rfl) (by decide) (fun c16 => ?_) (fun c16 => ?_)
      · have hF := if_t c16 hF
        refine lv_iload_n hx hb (dk DX2_readBits 26 rfl) rfl (lv_at hl 1 rfl) ?_
        cases hF
        exact r_iret C hrt hR (dk DX2_readBits 27 rfl)
      · have hF := if_f c16 hF
        refine lv_aload_n hx hb (dk DX2_readBits 12 rfl) rfl (lv_at hl 0 rfl) ?_
        obtain ⟨zq12, mq10, hzq11, hF⟩ := bnd_ex hF
        refine r_callUi (As := []) (rest := []) C hR (C_Tx_isAtNumberG l hl0 G mq5 _ _ hzq11) (by decide) (by decide) ob46 rfl wX2_91_2 rfl rfl (Nat.le_of_ble_eq_true rfl) hl.1 ⟨Nat.zero_le _, Nat.zero_le _⟩ (dk DX2_readBits 13 rfl) (fun H locs hR => ?_)
        refine z_ifeq (tgt := 44) hx hb (dk DX2_readBits 14 rfl) (by decide) (fun c23 => ?_) (fun c23 => ?_)
        · have hF := if_f c23 hF
          refine lv_iload_n hx hb (dk DX2_readBits 26 rfl) rfl (lv_at hl 1 rfl) ?_
          cases hF
          exact r_iret C hrt hR (dk DX2_readBits 27 rfl)
        · have hF := if_t c23 hF
          refine lv_iload_n hx hb (dk DX2_readBits 15 rfl) rfl (lv_at hl 1 rfl) ?_
          refine lv_iconst (v := (1 : Int32)) hx hb (dk DX2_readBits 16 rfl) (by decide) ?_
          refine lv_aload_n hx hb (dk DX2_readBits 17 rfl) rfl (lv_at hl 0 rfl) ?_
          refine lv_iconst (v := (0 : Int32)) hx hb (dk DX2_readBits 18 rfl) (by decide) ?_
          refine lv_bipush (v := (8 : Int32)) hx hb (dk DX2_readBits 19 rfl) (by decide) ?_
          obtain ⟨xq15, mq13, hzq14, hF⟩ := bnd_ex hF
          refine r_callUi (As := [.int (0 : Int32), .int (8 : Int32)]) (rest := [.int (1 : Int32), .int xq6]) C hR (C_Tx_numberG l hl0 G (0 : Int32) (8 : Int32) mq10 _ _ hzq14) (by decide) (by decide) ob46 rfl wX2_39_2 rfl rfl (Nat.le_of_ble_eq_true rfl) hl.1 ⟨Nat.zero_le _, Nat.zero_le _⟩ (dk DX2_readBits 20 rfl) (fun H locs hR => ?_)
          refine lv_ishl hx hb (dk DX2_readBits 21 rfl) ?_
          refine lv_ior hx hb (dk DX2_readBits 22 rfl) ?_
          refine lv_topi (fun xq16 exq16 => ?_)
          have hF := lt_at exq16 hF
          refine lv_istore_n (lv' := [(1, .int xq16), (0, .ref (G.2.1 + 46)), (2, .int xq7)]) hx hb (dk DX2_readBits 23 rfl) rfl hl (by decide) rfl (fun ls hl => ?_)
          obtain ⟨xq17, exq17, hF⟩ := lt_ex hF
          refine lv_iinc (v := xq17) (lv' := [(2, .int xq17), (1, .int xq16), (0, .ref (G.2.1 + 46))]) hx hb (dk DX2_readBits 24 rfl) hl (k := 2) rfl (by rw [exq17]; rfl) (by decide) rfl (fun ls hl => ?_)
          refine lv_goto (tgt := 12) hx hb (dk DX2_readBits 25 rfl) (by decide) ?_
          exact ihq9 xq16 xq17 mq13 _ _ ls (lv_sub hl [2, 1, 0] rfl) hR hF
  exact L12 1000000 xq4 (0 : Int32) mq1 _ _ ls (lv_sub hl [2, 1, 0] rfl) hR hF
set_option maxHeartbeats 4000000 in
set_option maxRecDepth 100000 in
theorem C_Tx_mustTakeG (l : Launch) (hl0 : l.stackTraces = false) (G : GG) (tx1 : String) (m0 : Mem) (htx_tx1 : tx1 ∈ strL.map (fun q => q.2.2)) (v : Unit) (m' : Mem) (hF : F_Tx_mustTakeG tx1 m0 = some (v, m')) : Ct l G mr0 N0 yX9_mustTake cX9_mustTake 2 none 10 [.ref (G.2.1 + 46), .ref (G.2.2.2.2.2.2 tx1)] m0 none m' := by
  refine Ct_of hl0 (by decide) (Nat.le_of_ble_eq_true rfl) ?_
  intro p e s mid args below meth c ls C hrt hl hR
  have hx := C.1.1
  have hb := C.1.2.1
  have hl : lv_has ls 2 [(0, .ref (G.2.1 + 46)), (1, .ref (G.2.2.2.2.2.2 tx1))] := hl
  unfold F_Tx_mustTakeG at hF
  refine lv_aload_n hx hb (dk DX9_mustTake 0 rfl) rfl (lv_at hl 0 rfl) ?_
  refine lv_aload_n hx hb (dk DX9_mustTake 1 rfl) rfl (lv_at hl 1 rfl) ?_
  obtain ⟨zq3, mq1, hzq2, hF⟩ := bnd_ex hF
  refine r_callVi (As := [.ref (G.2.2.2.2.2.2 tx1)]) (rest := []) C hR (C_Tx_takesWordG l hl0 G tx1 m0 htx_tx1 _ _ hzq2) (by decide) (by decide) ob46 rfl wX9_82_2 rfl rfl (Nat.le_of_ble_eq_true rfl) hl.1 ⟨Nat.zero_le _, Nat.zero_le _⟩ (dk DX9_mustTake 2 rfl) (fun H locs hR => ?_)
  refine z_ifne (tgt := 12) hx hb (dk DX9_mustTake 3 rfl) (by decide) (fun c5 => ?_) (fun c5 => ?_)
  · have hF := if_t c5 hF
    cases hF
    exact r_vret C hrt hR (dk DX9_mustTake 6 rfl)
  · have hF := if_f c5 hF
    refine lv_aload_n hx hb (dk DX9_mustTake 4 rfl) rfl (lv_at hl 0 rfl) ?_
    obtain ⟨uq6, mq4, hzq5, hF⟩ := bnd_ex hF
    refine r_callVv (As := []) (rest := []) C hR (C_Tx_setWrongG l hl0 G mq1 _ _ hzq5) (by decide) (by decide) ob46 rfl wX9_55_2 rfl rfl (Nat.le_of_ble_eq_true rfl) hl.1 ⟨Nat.zero_le _, Nat.zero_le _⟩ (dk DX9_mustTake 5 rfl) (fun H locs hR => ?_)
    cases hF
    exact r_vret C hrt hR (dk DX9_mustTake 6 rfl)
set_option maxHeartbeats 4000000 in
set_option maxRecDepth 100000 in
theorem C_GT_readSlot (l : Launch) (hl0 : l.stackTraces = false) (G : GG) (m0 : Mem) (v : Unit) (m' : Mem) (hF : F_GT_readSlot m0 = some (v, m')) : Ct l G mr0 N0 yX2_readSlot cX2_readSlot 5 none 11 [.ref (G.2.1 + 46)] m0 none m' := by
  refine Ct_of hl0 (by decide) (Nat.le_of_ble_eq_true rfl) ?_
  intro p e s mid args below meth c ls C hrt hl hR
  have hx := C.1.1
  have hb := C.1.2.1
  have hl : lv_has ls 5 [(0, .ref (G.2.1 + 46))] := hl
  unfold F_GT_readSlot at hF
  refine lv_aload_n hx hb (dk DX2_readSlot 0 rfl) rfl (lv_at hl 0 rfl) ?_
  refine lv_iconst (v := (0 : Int32)) hx hb (dk DX2_readSlot 1 rfl) (by decide) ?_
  refine lv_iconst (v := (3 : Int32)) hx hb (dk DX2_readSlot 2 rfl) (by decide) ?_
  obtain ⟨xq3, mq1, hzq2, hF⟩ := bnd_ex hF
  refine r_callUi (As := [.int (0 : Int32), .int (3 : Int32)]) (rest := []) C hR (C_Tx_numberG l hl0 G (0 : Int32) (3 : Int32) m0 _ _ hzq2) (by decide) (by decide) ob46 rfl wX2_39_2 rfl rfl (Nat.le_of_ble_eq_true rfl) hl.1 ⟨Nat.zero_le _, Nat.zero_le _⟩ (dk DX2_readSlot 3 rfl) (fun H locs hR => ?_)
  refine lv_istore_n (lv' := [(1, .int xq3), (0, .ref (G.2.1 + 46))]) hx hb (dk DX2_readSlot 4 rfl) rfl hl (by decide) rfl (fun ls hl => ?_)
  refine lv_aload_n hx hb (dk DX2_readSlot 5 rfl) rfl (lv_at hl 1 rfl) ?_
  refine lv_iconst (v := (0 : Int32)) hx hb (dk DX2_readSlot 6 rfl) (by decide) ?_
  refine lv_iconst (v := (3 : Int32)) hx hb (dk DX2_readSlot 7 rfl) (by decide) ?_
  obtain ⟨xq6, mq4, hzq5, hF⟩ := bnd_ex hF
  refine r_callUi (As := [.int (0 : Int32), .int (3 : Int32)]) (rest := []) C hR (C_Tx_numberG l hl0 G (0 : Int32) (3 : Int32) mq1 _ _ hzq5) (by decide) (by decide) ob46 rfl wX2_39_2 rfl rfl (Nat.le_of_ble_eq_true rfl) hl.1 ⟨Nat.zero_le _, Nat.zero_le _⟩ (dk DX2_readSlot 8 rfl) (fun H locs hR => ?_)
  refine lv_istore_n (lv' := [(2, .int xq6), (1, .int xq3), (0, .ref (G.2.1 + 46))]) hx hb (dk DX2_readSlot 9 rfl) rfl hl (by decide) rfl (fun ls hl => ?_)
  refine lv_aload_n hx hb (dk DX2_readSlot 10 rfl) rfl (lv_at hl 2 rfl) ?_
  refine r_lds C (strm_X2_87) (dk DX2_readSlot 11 rfl) ?_
  obtain ⟨uq9, mq7, hzq8, hF⟩ := bnd_ex hF
  refine r_callUv (As := [.ref (G.2.2.2.2.2.2 ("runs"))]) (rest := []) C hR (C_Tx_mustTakeG l hl0 G ("runs") mq4 txm_5 _ _ hzq8) (by decide) (by decide) ob46 rfl wX2_81_2 rfl rfl (Nat.le_of_ble_eq_true rfl) hl.1 ⟨Nat.zero_le _, Nat.zero_le _⟩ (dk DX2_readSlot 12 rfl) (fun H locs hR => ?_)
  refine lv_aload_n hx hb (dk DX2_readSlot 13 rfl) rfl (lv_at hl 2 rfl) ?_
  refine lv_iconst (v := (0 : Int32)) hx hb (dk DX2_readSlot 14 rfl) (by decide) ?_
  refine lv_bipush (v := (9 : Int32)) hx hb (dk DX2_readSlot 15 rfl) (by decide) ?_
  obtain ⟨xq12, mq10, hzq11, hF⟩ := bnd_ex hF
  refine r_callUi (As := [.int (0 : Int32), .int (9 : Int32)]) (rest := []) C hR (C_Tx_numberG l hl0 G (0 : Int32) (9 : Int32) mq7 _ _ hzq11) (by decide) (by decide) ob46 rfl wX2_39_2 rfl rfl (Nat.le_of_ble_eq_true rfl) hl.1 ⟨Nat.zero_le _, Nat.zero_le _⟩ (dk DX2_readSlot 16 rfl) (fun H locs hR => ?_)
  refine lv_istore_n (lv' := [(3, .int xq12), (2, .int xq6), (1, .int xq3), (0, .ref (G.2.1 + 46))]) hx hb (dk DX2_readSlot 17 rfl) rfl hl (by decide) rfl (fun ls hl => ?_)
  refine lv_aload_n hx hb (dk DX2_readSlot 18 rfl) rfl (lv_at hl 3 rfl) ?_
  refine r_lds C (strm_X2_89) (dk DX2_readSlot 19 rfl) ?_
  obtain ⟨uq15, mq13, hzq14, hF⟩ := bnd_ex hF
  refine r_callUv (As := [.ref (G.2.2.2.2.2.2 ("outs"))]) (rest := []) C hR (C_Tx_mustTakeG l hl0 G ("outs") mq10 txm_6 _ _ hzq14) (by decide) (by decide) ob46 rfl wX2_81_2 rfl rfl (Nat.le_of_ble_eq_true rfl) hl.1 ⟨Nat.zero_le _, Nat.zero_le _⟩ (dk DX2_readSlot 20 rfl) (fun H locs hR => ?_)
  refine lv_aload_n hx hb (dk DX2_readSlot 21 rfl) rfl (lv_at hl 3 rfl) ?_
  refine lv_iconst (v := (0 : Int32)) hx hb (dk DX2_readSlot 22 rfl) (by decide) ?_
  refine lv_bipush (v := (9 : Int32)) hx hb (dk DX2_readSlot 23 rfl) (by decide) ?_
  obtain ⟨xq18, mq16, hzq17, hF⟩ := bnd_ex hF
  refine r_callUi (As := [.int (0 : Int32), .int (9 : Int32)]) (rest := []) C hR (C_Tx_numberG l hl0 G (0 : Int32) (9 : Int32) mq13 _ _ hzq17) (by decide) (by decide) ob46 rfl wX2_39_2 rfl rfl (Nat.le_of_ble_eq_true rfl) hl.1 ⟨Nat.zero_le _, Nat.zero_le _⟩ (dk DX2_readSlot 24 rfl) (fun H locs hR => ?_)
  refine lv_istore (lv' := [(4, .int xq18), (3, .int xq12), (2, .int xq6), (1, .int xq3), (0, .ref (G.2.1 + 46))]) hx hb (dk DX2_readSlot 25 rfl) hl (by decide) rfl (fun ls hl => ?_)
  refine lv_aload_n hx hb (dk DX2_readSlot 26 rfl) rfl (lv_at hl 4 rfl) ?_
  refine lv_iconst (v := (2 : Int32)) hx hb (dk DX2_readSlot 27 rfl) (by decide) ?_
  refine lv_iload_n hx hb (dk DX2_readSlot 28 rfl) rfl (lv_at hl 3 rfl) ?_
  refine lv_iload_n hx hb (dk DX2_readSlot 29 rfl) rfl (lv_at hl 2 rfl) ?_
  refine lv_iload_n hx hb (dk DX2_readSlot 30 rfl) rfl (lv_at hl 1 rfl) ?_
  refine lv_iload hx hb (dk DX2_readSlot 31 rfl) (lv_at hl 0 rfl) ?_
  obtain ⟨uq21, mq19, hzq20, hF⟩ := bnd_ex hF
  refine r_callVv (As := [.int (2 : Int32), .int xq3, .int xq6, .int xq12, .int xq18]) (rest := []) C hR (C_GT_keep l hl0 G (2 : Int32) xq3 xq6 xq12 xq18 mq16 _ _ hzq20) (by decide) (by decide) ob46 rfl wX2_43 rfl rfl (Nat.le_of_ble_eq_true rfl) hl.1 ⟨Nat.zero_le _, Nat.zero_le _⟩ (dk DX2_readSlot 32 rfl) (fun H locs hR => ?_)
  cases hF
  exact r_vret C hrt hR (dk DX2_readSlot 33 rfl)
set_option maxHeartbeats 4000000 in
set_option maxRecDepth 100000 in
theorem C_GT_readSide (l : Launch) (hl0 : l.stackTraces = false) (G : GG) (m0 : Mem) (v : Unit) (m' : Mem) (hF : F_GT_readSide m0 = some (v, m')) : Ct l G mr0 N0 yX2_readSide cX2_readSide 4 none 11 [.ref (G.2.1 + 46)] m0 none m' := by
  refine Ct_of hl0 (by decide) (Nat.le_of_ble_eq_true rfl) ?_
  intro p e s mid args below meth c ls C hrt hl hR
  have hx := C.1.1
  have hb := C.1.2.1
  have hl : lv_has ls 4 [(0, .ref (G.2.1 + 46))] := hl
  unfold F_GT_readSide at hF
  refine lv_aload_n hx hb (dk DX2_readSide 0 rfl) rfl (lv_at hl 0 rfl) ?_
  refine lv_iconst (v := (0 : Int32)) hx hb (dk DX2_readSide 1 rfl) (by decide) ?_
  refine lv_iconst (v := (1 : Int32)) hx hb (dk DX2_readSide 2 rfl) (by decide) ?_
  obtain ⟨xq3, mq1, hzq2, hF⟩ := bnd_ex hF
  refine r_callUi (As := [.int (0 : Int32), .int (1 : Int32)]) (rest := []) C hR (C_Tx_numberG l hl0 G (0 : Int32) (1 : Int32) m0 _ _ hzq2) (by decide) (by decide) ob46 rfl wX2_39_2 rfl rfl (Nat.le_of_ble_eq_true rfl) hl.1 ⟨Nat.zero_le _, Nat.zero_le _⟩ (dk DX2_readSide 3 rfl) (fun H locs hR => ?_)
  refine lv_istore_n (lv' := [(1, .int xq3), (0, .ref (G.2.1 + 46))]) hx hb (dk DX2_readSide 4 rfl) rfl hl (by decide) rfl (fun ls hl => ?_)
  refine lv_aload_n hx hb (dk DX2_readSide 5 rfl) rfl (lv_at hl 1 rfl) ?_
  refine r_lds C (strm_X2_79) (dk DX2_readSide 6 rfl) ?_
  obtain ⟨uq6, mq4, hzq5, hF⟩ := bnd_ex hF
  refine r_callUv (As := [.ref (G.2.2.2.2.2.2 ("bat"))]) (rest := []) C hR (C_Tx_mustTakeG l hl0 G ("bat") mq1 txm_2 _ _ hzq5) (by decide) (by decide) ob46 rfl wX2_81_2 rfl rfl (Nat.le_of_ble_eq_true rfl) hl.1 ⟨Nat.zero_le _, Nat.zero_le _⟩ (dk DX2_readSide 7 rfl) (fun H locs hR => ?_)
  refine lv_aload_n hx hb (dk DX2_readSide 8 rfl) rfl (lv_at hl 1 rfl) ?_
  refine lv_iconst (v := (0 : Int32)) hx hb (dk DX2_readSide 9 rfl) (by decide) ?_
  refine lv_bipush (v := (9 : Int32)) hx hb (dk DX2_readSide 10 rfl) (by decide) ?_
  obtain ⟨xq9, mq7, hzq8, hF⟩ := bnd_ex hF
  refine r_callUi (As := [.int (0 : Int32), .int (9 : Int32)]) (rest := []) C hR (C_Tx_numberG l hl0 G (0 : Int32) (9 : Int32) mq4 _ _ hzq8) (by decide) (by decide) ob46 rfl wX2_39_2 rfl rfl (Nat.le_of_ble_eq_true rfl) hl.1 ⟨Nat.zero_le _, Nat.zero_le _⟩ (dk DX2_readSide 11 rfl) (fun H locs hR => ?_)
  refine lv_istore_n (lv' := [(2, .int xq9), (1, .int xq3), (0, .ref (G.2.1 + 46))]) hx hb (dk DX2_readSide 12 rfl) rfl hl (by decide) rfl (fun ls hl => ?_)
  refine lv_aload_n hx hb (dk DX2_readSide 13 rfl) rfl (lv_at hl 2 rfl) ?_
  refine r_lds C (strm_X2_85) (dk DX2_readSide 14 rfl) ?_
  obtain ⟨uq12, mq10, hzq11, hF⟩ := bnd_ex hF
  refine r_callUv (As := [.ref (G.2.2.2.2.2.2 ("bowl"))]) (rest := []) C hR (C_Tx_mustTakeG l hl0 G ("bowl") mq7 txm_3 _ _ hzq11) (by decide) (by decide) ob46 rfl wX2_81_2 rfl rfl (Nat.le_of_ble_eq_true rfl) hl.1 ⟨Nat.zero_le _, Nat.zero_le _⟩ (dk DX2_readSide 15 rfl) (fun H locs hR => ?_)
  refine lv_aload_n hx hb (dk DX2_readSide 16 rfl) rfl (lv_at hl 2 rfl) ?_
  refine lv_iconst (v := (0 : Int32)) hx hb (dk DX2_readSide 17 rfl) (by decide) ?_
  refine lv_bipush (v := (9 : Int32)) hx hb (dk DX2_readSide 18 rfl) (by decide) ?_
  obtain ⟨xq15, mq13, hzq14, hF⟩ := bnd_ex hF
  refine r_callUi (As := [.int (0 : Int32), .int (9 : Int32)]) (rest := []) C hR (C_Tx_numberG l hl0 G (0 : Int32) (9 : Int32) mq10 _ _ hzq14) (by decide) (by decide) ob46 rfl wX2_39_2 rfl rfl (Nat.le_of_ble_eq_true rfl) hl.1 ⟨Nat.zero_le _, Nat.zero_le _⟩ (dk DX2_readSide 19 rfl) (fun H locs hR => ?_)
  refine lv_istore_n (lv' := [(3, .int xq15), (2, .int xq9), (1, .int xq3), (0, .ref (G.2.1 + 46))]) hx hb (dk DX2_readSide 20 rfl) rfl hl (by decide) rfl (fun ls hl => ?_)
  refine lv_aload_n hx hb (dk DX2_readSide 21 rfl) rfl (lv_at hl 3 rfl) ?_
  refine lv_iconst (v := (1 : Int32)) hx hb (dk DX2_readSide 22 rfl) (by decide) ?_
  refine lv_iload_n hx hb (dk DX2_readSide 23 rfl) rfl (lv_at hl 2 rfl) ?_
  refine lv_iload_n hx hb (dk DX2_readSide 24 rfl) rfl (lv_at hl 1 rfl) ?_
  refine lv_iload_n hx hb (dk DX2_readSide 25 rfl) rfl (lv_at hl 0 rfl) ?_
  refine lv_iconst (v := (0 : Int32)) hx hb (dk DX2_readSide 26 rfl) (by decide) ?_
  obtain ⟨uq18, mq16, hzq17, hF⟩ := bnd_ex hF
  refine r_callVv (As := [.int (1 : Int32), .int xq3, .int xq9, .int xq15, .int (0 : Int32)]) (rest := []) C hR (C_GT_keep l hl0 G (1 : Int32) xq3 xq9 xq15 (0 : Int32) mq13 _ _ hzq17) (by decide) (by decide) ob46 rfl wX2_43 rfl rfl (Nat.le_of_ble_eq_true rfl) hl.1 ⟨Nat.zero_le _, Nat.zero_le _⟩ (dk DX2_readSide 27 rfl) (fun H locs hR => ?_)
  cases hF
  exact r_vret C hrt hR (dk DX2_readSide 28 rfl)
set_option maxHeartbeats 4000000 in
set_option maxRecDepth 100000 in
theorem C_GT_readLine (l : Launch) (hl0 : l.stackTraces = false) (G : GG) (m0 : Mem) (v : Unit) (m' : Mem) (hF : F_GT_readLine m0 = some (v, m')) : Ct l G mr0 N0 yX2_readLine cX2_readLine 1 none 12 [.ref (G.2.1 + 46)] m0 none m' := by
  refine Ct_of hl0 (by decide) (Nat.le_of_ble_eq_true rfl) ?_
  intro p e s mid args below meth c ls C hrt hl hR
  have hx := C.1.1
  have hb := C.1.2.1
  have hl : lv_has ls 1 [(0, .ref (G.2.1 + 46))] := hl
  unfold F_GT_readLine at hF
  refine lv_aload_n hx hb (dk DX2_readLine 0 rfl) rfl (lv_at hl 0 rfl) ?_
  refine gX2_22 C hR ob46 (dk DX2_readLine 1 rfl) ?_
  obtain ⟨k34_1, ek34_1, hF⟩ := lt_ex hF
  have J34 : ∀ (mq1 : Mem) (H : Heap) (locs : List Loc) (ls : Array Slot), lv_has ls 1 [(0, .ref (G.2.1 + 46))] → Rp G mr0 N0 mq1 s H locs → k34_1  mq1 = some (v, m') → W p l e (rmD 12) s mid args below meth c H locs 0 0 (MQ below (QR G mr0 N0 none m') args s 0 0 (fun q => G.2.1 ≤ q)) (F0 mid 34 ls []) := by
    intro  mq1 H locs ls hl hR hF
    rw [ek34_1] at hF
    refine lv_aload_n hx hb (dk DX2_readLine 18 rfl) rfl (lv_at hl 0 rfl) ?_
    refine r_lds C (strm_X2_47) (dk DX2_readLine 19 rfl) ?_
    obtain ⟨zq4, mq2, hzq3, hF⟩ := bnd_ex hF
    refine r_callUi (As := [.ref (G.2.2.2.2.2.2 ("side"))]) (rest := []) C hR (C_Tx_takesWordG l hl0 G ("side") mq1 txm_1 _ _ hzq3) (by decide) (by decide) ob46 rfl wX2_35_2 rfl rfl (Nat.le_of_ble_eq_true rfl) hl.1 ⟨Nat.zero_le _, Nat.zero_le _⟩ (dk DX2_readLine 20 rfl) (fun H locs hR => ?_)
    refine z_ifeq (tgt := 50) hx hb (dk DX2_readLine 21 rfl) (by decide) (fun c40 => ?_) (fun c40 => ?_)
    · have hF := if_f c40 hF
      refine lv_aload_n hx hb (dk DX2_readLine 25 rfl) rfl (lv_at hl 0 rfl) ?_
      refine r_lds C (strm_X2_52) (dk DX2_readLine 26 rfl) ?_
      obtain ⟨zq7, mq5, hzq6, hF⟩ := bnd_ex hF
      refine r_callUi (As := [.ref (G.2.2.2.2.2.2 ("slot"))]) (rest := []) C hR (C_Tx_takesWordG l hl0 G ("slot") mq2 txm_4 _ _ hzq6) (by decide) (by decide) ob46 rfl wX2_35_2 rfl rfl (Nat.le_of_ble_eq_true rfl) hl.1 ⟨Nat.zero_le _, Nat.zero_le _⟩ (dk DX2_readLine 27 rfl) (fun H locs hR => ?_)
      refine z_ifeq (tgt := 66) hx hb (dk DX2_readLine 28 rfl) (by decide) (fun c56 => ?_) (fun c56 => ?_)
      · have hF := if_f c56 hF
        refine lv_aload_n hx hb (dk DX2_readLine 32 rfl) rfl (lv_at hl 0 rfl) ?_
        refine r_lds C (strm_X2_57) (dk DX2_readLine 33 rfl) ?_
        obtain ⟨zq10, mq8, hzq9, hF⟩ := bnd_ex hF
        refine r_callUi (As := [.ref (G.2.2.2.2.2.2 ("cloud"))]) (rest := []) C hR (C_Tx_takesWordG l hl0 G ("cloud") mq5 txm_7 _ _ hzq9) (by decide) (by decide) ob46 rfl wX2_35_2 rfl rfl (Nat.le_of_ble_eq_true rfl) hl.1 ⟨Nat.zero_le _, Nat.zero_le _⟩ (dk DX2_readLine 34 rfl) (fun H locs hR => ?_)
        refine z_ifeq (tgt := 90) hx hb (dk DX2_readLine 35 rfl) (by decide) (fun c72 => ?_) (fun c72 => ?_)
        · have hF := if_f c72 hF
          refine lv_aload_n hx hb (dk DX2_readLine 45 rfl) rfl (lv_at hl 0 rfl) ?_
          refine r_lds C (strm_X2_63) (dk DX2_readLine 46 rfl) ?_
          obtain ⟨zq13, mq11, hzq12, hF⟩ := bnd_ex hF
          refine r_callUi (As := [.ref (G.2.2.2.2.2.2 ("tide"))]) (rest := []) C hR (C_Tx_takesWordG l hl0 G ("tide") mq8 txm_8 _ _ hzq12) (by decide) (by decide) ob46 rfl wX2_35_2 rfl rfl (Nat.le_of_ble_eq_true rfl) hl.1 ⟨Nat.zero_le _, Nat.zero_le _⟩ (dk DX2_readLine 47 rfl) (fun H locs hR => ?_)
          refine z_ifeq (tgt := 114) hx hb (dk DX2_readLine 48 rfl) (by decide) (fun c96 => ?_) (fun c96 => ?_)
          · have hF := if_f c96 hF
            refine lv_aload_n hx hb (dk DX2_readLine 58 rfl) rfl (lv_at hl 0 rfl) ?_
            refine r_lds C (strm_X2_65) (dk DX2_readLine 59 rfl) ?_
            obtain ⟨zq16, mq14, hzq15, hF⟩ := bnd_ex hF
            refine r_callUi (As := [.ref (G.2.2.2.2.2.2 ("rain"))]) (rest := []) C hR (C_Tx_takesWordG l hl0 G ("rain") mq11 txm_9 _ _ hzq15) (by decide) (by decide) ob46 rfl wX2_35_2 rfl rfl (Nat.le_of_ble_eq_true rfl) hl.1 ⟨Nat.zero_le _, Nat.zero_le _⟩ (dk DX2_readLine 60 rfl) (fun H locs hR => ?_)
            refine z_ifeq (tgt := 138) hx hb (dk DX2_readLine 61 rfl) (by decide) (fun c120 => ?_) (fun c120 => ?_)
            · have hF := if_f c120 hF
              refine lv_aload_n hx hb (dk DX2_readLine 71 rfl) rfl (lv_at hl 0 rfl) ?_
              refine r_lds C (strm_X2_67) (dk DX2_readLine 72 rfl) ?_
              obtain ⟨zq19, mq17, hzq18, hF⟩ := bnd_ex hF
              refine r_callUi (As := [.ref (G.2.2.2.2.2.2 ("margin"))]) (rest := []) C hR (C_Tx_takesWordG l hl0 G ("margin") mq14 txm_10 _ _ hzq18) (by decide) (by decide) ob46 rfl wX2_35_2 rfl rfl (Nat.le_of_ble_eq_true rfl) hl.1 ⟨Nat.zero_le _, Nat.zero_le _⟩ (dk DX2_readLine 73 rfl) (fun H locs hR => ?_)
              refine z_ifeq (tgt := 166) hx hb (dk DX2_readLine 74 rfl) (by decide) (fun c144 => ?_) (fun c144 => ?_)
              · have hF := if_f c144 hF
                refine lv_aload_n hx hb (dk DX2_readLine 86 rfl) rfl (lv_at hl 0 rfl) ?_
                refine r_lds C (strm_X2_69) (dk DX2_readLine 87 rfl) ?_
                obtain ⟨zq22, mq20, hzq21, hF⟩ := bnd_ex hF
                refine r_callUi (As := [.ref (G.2.2.2.2.2.2 ("drawworth"))]) (rest := []) C hR (C_Tx_takesWordG l hl0 G ("drawworth") mq17 txm_11 _ _ hzq21) (by decide) (by decide) ob46 rfl wX2_35_2 rfl rfl (Nat.le_of_ble_eq_true rfl) hl.1 ⟨Nat.zero_le _, Nat.zero_le _⟩ (dk DX2_readLine 88 rfl) (fun H locs hR => ?_)
                refine z_ifeq (tgt := 194) hx hb (dk DX2_readLine 89 rfl) (by decide) (fun c172 => ?_) (fun c172 => ?_)
                · have hF := if_f c172 hF
                  refine lv_aload_n hx hb (dk DX2_readLine 101 rfl) rfl (lv_at hl 0 rfl) ?_
                  refine gX2_19 C hR ob46 (dk DX2_readLine 102 rfl) ?_
                  refine lv_bipush (v := (60 : Int32)) hx hb (dk DX2_readLine 103 rfl) (by decide) ?_
                  obtain ⟨k219_23, ek219_23, hF⟩ := lt_ex hF
                  have J219 : ∀ (mq23 : Mem) (H : Heap) (locs : List Loc) (ls : Array Slot), lv_has ls 1 [(0, .ref (G.2.1 + 46))] → Rp G mr0 N0 mq23 s H locs → k219_23  mq23 = some (v, m') → W p l e (rmD 12) s mid args below meth c H locs 0 0 (MQ below (QR G mr0 N0 none m') args s 0 0 (fun q => G.2.1 ≤ q)) (F0 mid 219 ls []) := by
                    intro  mq23 H locs ls hl hR hF
                    rw [ek219_23] at hF
                    refine lv_aload_n hx hb (dk DX2_readLine 112 rfl) rfl (lv_at hl 0 rfl) ?_
                    obtain ⟨uq26, mq24, hzq25, hF⟩ := bnd_ex hF
                    refine r_callUv (As := []) (rest := []) C hR (C_Tx_setWrongG l hl0 G mq23 _ _ hzq25) (by decide) (by decide) ob46 rfl wX2_76_2 rfl rfl (Nat.le_of_ble_eq_true rfl) hl.1 ⟨Nat.zero_le _, Nat.zero_le _⟩ (dk DX2_readLine 113 rfl) (fun H locs hR => ?_)
                    cases hF
                    exact r_vret C hrt hR (dk DX2_readLine 114 rfl)
                  refine lv_icmp_ge (tgt := 219) hx hb (dk DX2_readLine 104 rfl) (by decide) (fun c200 => ?_) (fun c200 => ?_)
                  · have hF := if_t c200 hF
                    exact J219 mq20 _ _ ls (lv_sub hl [0] rfl) hR hF
                  · have hF := if_f c200 hF
                    refine lv_aload_n hx hb (dk DX2_readLine 105 rfl) rfl (lv_at hl 0 rfl) ?_
                    refine r_lds C (strm_X2_71) (dk DX2_readLine 106 rfl) ?_
                    obtain ⟨zq29, mq27, hzq28, hF⟩ := bnd_ex hF
                    refine r_callUi (As := [.ref (G.2.2.2.2.2.2 ("book"))]) (rest := []) C hR (C_Tx_takesWordG l hl0 G ("book") mq20 txm_12 _ _ hzq28) (by decide) (by decide) ob46 rfl wX2_35_2 rfl rfl (Nat.le_of_ble_eq_true rfl) hl.1 ⟨Nat.zero_le _, Nat.zero_le _⟩ (dk DX2_readLine 107 rfl) (fun H locs hR => ?_)
                    refine z_ifeq (tgt := 219) hx hb (dk DX2_readLine 108 rfl) (by decide) (fun c209 => ?_) (fun c209 => ?_)
                    · have hF := if_f c209 hF
                      exact J219 mq27 _ _ ls (lv_sub hl [0] rfl) hR hF
                    · have hF := if_t c209 hF
                      refine lv_aload_n hx hb (dk DX2_readLine 109 rfl) rfl (lv_at hl 0 rfl) ?_
                      obtain ⟨uq32, mq30, hzq31, hF⟩ := bnd_ex hF
                      refine r_callVv (As := []) (rest := []) C hR (C_GT_readBook l hl0 G mq27 _ _ hzq31) (by decide) (by decide) ob46 rfl wX2_73 rfl rfl (Nat.le_of_ble_eq_true rfl) hl.1 ⟨Nat.zero_le _, Nat.zero_le _⟩ (dk DX2_readLine 110 rfl) (fun H locs hR => ?_)
                      refine lv_goto (tgt := 223) hx hb (dk DX2_readLine 111 rfl) (by decide) ?_
                      cases hF
                      exact r_vret C hrt hR (dk DX2_readLine 114 rfl)
                · have hF := if_t c172 hF
                  refine lv_aload_n hx hb (dk DX2_readLine 90 rfl) rfl (lv_at hl 0 rfl) ?_
                  refine lv_bipush (v := (7 : Int32)) hx hb (dk DX2_readLine 91 rfl) (by decide) ?_
                  refine lv_aload_n hx hb (dk DX2_readLine 92 rfl) rfl (lv_at hl 0 rfl) ?_
                  refine lv_iconst (v := (0 : Int32)) hx hb (dk DX2_readLine 93 rfl) (by decide) ?_
                  refine lv_bipush (v := (100 : Int32)) hx hb (dk DX2_readLine 94 rfl) (by decide) ?_
                  obtain ⟨xq35, mq33, hzq34, hF⟩ := bnd_ex hF
                  refine r_callUi (As := [.int (0 : Int32), .int (100 : Int32)]) (rest := [.int (7 : Int32), .ref (G.2.1 + 46)]) C hR (C_Tx_numberG l hl0 G (0 : Int32) (100 : Int32) mq20 _ _ hzq34) (by decide) (by decide) ob46 rfl wX2_39_2 rfl rfl (Nat.le_of_ble_eq_true rfl) hl.1 ⟨Nat.zero_le _, Nat.zero_le _⟩ (dk DX2_readLine 95 rfl) (fun H locs hR => ?_)
                  refine lv_iconst (v := (0 : Int32)) hx hb (dk DX2_readLine 96 rfl) (by decide) ?_
                  refine lv_iconst (v := (0 : Int32)) hx hb (dk DX2_readLine 97 rfl) (by decide) ?_
                  refine lv_iconst (v := (0 : Int32)) hx hb (dk DX2_readLine 98 rfl) (by decide) ?_
                  obtain ⟨uq38, mq36, hzq37, hF⟩ := bnd_ex hF
                  refine r_callVv (As := [.int (7 : Int32), .int xq35, .int (0 : Int32), .int (0 : Int32), .int (0 : Int32)]) (rest := []) C hR (C_GT_keep l hl0 G (7 : Int32) xq35 (0 : Int32) (0 : Int32) (0 : Int32) mq33 _ _ hzq37) (by decide) (by decide) ob46 rfl wX2_43 rfl rfl (Nat.le_of_ble_eq_true rfl) hl.1 ⟨Nat.zero_le _, Nat.zero_le _⟩ (dk DX2_readLine 99 rfl) (fun H locs hR => ?_)
                  refine lv_goto (tgt := 223) hx hb (dk DX2_readLine 100 rfl) (by decide) ?_
                  cases hF
                  exact r_vret C hrt hR (dk DX2_readLine 114 rfl)
              · have hF := if_t c144 hF
                refine lv_aload_n hx hb (dk DX2_readLine 75 rfl) rfl (lv_at hl 0 rfl) ?_
                refine lv_bipush (v := (6 : Int32)) hx hb (dk DX2_readLine 76 rfl) (by decide) ?_
                refine lv_aload_n hx hb (dk DX2_readLine 77 rfl) rfl (lv_at hl 0 rfl) ?_
                refine lv_iconst (v := (0 : Int32)) hx hb (dk DX2_readLine 78 rfl) (by decide) ?_
                refine lv_bipush (v := (99 : Int32)) hx hb (dk DX2_readLine 79 rfl) (by decide) ?_
                obtain ⟨xq41, mq39, hzq40, hF⟩ := bnd_ex hF
                refine r_callUi (As := [.int (0 : Int32), .int (99 : Int32)]) (rest := [.int (6 : Int32), .ref (G.2.1 + 46)]) C hR (C_Tx_numberG l hl0 G (0 : Int32) (99 : Int32) mq17 _ _ hzq40) (by decide) (by decide) ob46 rfl wX2_39_2 rfl rfl (Nat.le_of_ble_eq_true rfl) hl.1 ⟨Nat.zero_le _, Nat.zero_le _⟩ (dk DX2_readLine 80 rfl) (fun H locs hR => ?_)
                refine lv_iconst (v := (0 : Int32)) hx hb (dk DX2_readLine 81 rfl) (by decide) ?_
                refine lv_iconst (v := (0 : Int32)) hx hb (dk DX2_readLine 82 rfl) (by decide) ?_
                refine lv_iconst (v := (0 : Int32)) hx hb (dk DX2_readLine 83 rfl) (by decide) ?_
                obtain ⟨uq44, mq42, hzq43, hF⟩ := bnd_ex hF
                refine r_callVv (As := [.int (6 : Int32), .int xq41, .int (0 : Int32), .int (0 : Int32), .int (0 : Int32)]) (rest := []) C hR (C_GT_keep l hl0 G (6 : Int32) xq41 (0 : Int32) (0 : Int32) (0 : Int32) mq39 _ _ hzq43) (by decide) (by decide) ob46 rfl wX2_43 rfl rfl (Nat.le_of_ble_eq_true rfl) hl.1 ⟨Nat.zero_le _, Nat.zero_le _⟩ (dk DX2_readLine 84 rfl) (fun H locs hR => ?_)
                refine lv_goto (tgt := 223) hx hb (dk DX2_readLine 85 rfl) (by decide) ?_
                cases hF
                exact r_vret C hrt hR (dk DX2_readLine 114 rfl)
            · have hF := if_t c120 hF
              refine lv_aload_n hx hb (dk DX2_readLine 62 rfl) rfl (lv_at hl 0 rfl) ?_
              refine lv_iconst (v := (5 : Int32)) hx hb (dk DX2_readLine 63 rfl) (by decide) ?_
              refine lv_aload_n hx hb (dk DX2_readLine 64 rfl) rfl (lv_at hl 0 rfl) ?_
              obtain ⟨xq47, mq45, hzq46, hF⟩ := bnd_ex hF
              refine r_callVi (As := []) (rest := [.int (5 : Int32), .ref (G.2.1 + 46)]) C hR (C_GT_readBits l hl0 G mq14 _ _ hzq46) (by decide) (by decide) ob46 rfl wX2_59 rfl rfl (Nat.le_of_ble_eq_true rfl) hl.1 ⟨Nat.zero_le _, Nat.zero_le _⟩ (dk DX2_readLine 65 rfl) (fun H locs hR => ?_)
              refine lv_iconst (v := (0 : Int32)) hx hb (dk DX2_readLine 66 rfl) (by decide) ?_
              refine lv_iconst (v := (0 : Int32)) hx hb (dk DX2_readLine 67 rfl) (by decide) ?_
              refine lv_iconst (v := (0 : Int32)) hx hb (dk DX2_readLine 68 rfl) (by decide) ?_
              obtain ⟨uq50, mq48, hzq49, hF⟩ := bnd_ex hF
              refine r_callVv (As := [.int (5 : Int32), .int xq47, .int (0 : Int32), .int (0 : Int32), .int (0 : Int32)]) (rest := []) C hR (C_GT_keep l hl0 G (5 : Int32) xq47 (0 : Int32) (0 : Int32) (0 : Int32) mq45 _ _ hzq49) (by decide) (by decide) ob46 rfl wX2_43 rfl rfl (Nat.le_of_ble_eq_true rfl) hl.1 ⟨Nat.zero_le _, Nat.zero_le _⟩ (dk DX2_readLine 69 rfl) (fun H locs hR => ?_)
              refine lv_goto (tgt := 223) hx hb (dk DX2_readLine 70 rfl) (by decide) ?_
              cases hF
              exact r_vret C hrt hR (dk DX2_readLine 114 rfl)
          · have hF := if_t c96 hF
            refine lv_aload_n hx hb (dk DX2_readLine 49 rfl) rfl (lv_at hl 0 rfl) ?_
            refine lv_iconst (v := (4 : Int32)) hx hb (dk DX2_readLine 50 rfl) (by decide) ?_
            refine lv_aload_n hx hb (dk DX2_readLine 51 rfl) rfl (lv_at hl 0 rfl) ?_
            obtain ⟨xq53, mq51, hzq52, hF⟩ := bnd_ex hF
            refine r_callVi (As := []) (rest := [.int (4 : Int32), .ref (G.2.1 + 46)]) C hR (C_GT_readBits l hl0 G mq11 _ _ hzq52) (by decide) (by decide) ob46 rfl wX2_59 rfl rfl (Nat.le_of_ble_eq_true rfl) hl.1 ⟨Nat.zero_le _, Nat.zero_le _⟩ (dk DX2_readLine 52 rfl) (fun H locs hR => ?_)
            refine lv_iconst (v := (0 : Int32)) hx hb (dk DX2_readLine 53 rfl) (by decide) ?_
            refine lv_iconst (v := (0 : Int32)) hx hb (dk DX2_readLine 54 rfl) (by decide) ?_
            refine lv_iconst (v := (0 : Int32)) hx hb (dk DX2_readLine 55 rfl) (by decide) ?_
            obtain ⟨uq56, mq54, hzq55, hF⟩ := bnd_ex hF
            refine r_callVv (As := [.int (4 : Int32), .int xq53, .int (0 : Int32), .int (0 : Int32), .int (0 : Int32)]) (rest := []) C hR (C_GT_keep l hl0 G (4 : Int32) xq53 (0 : Int32) (0 : Int32) (0 : Int32) mq51 _ _ hzq55) (by decide) (by decide) ob46 rfl wX2_43 rfl rfl (Nat.le_of_ble_eq_true rfl) hl.1 ⟨Nat.zero_le _, Nat.zero_le _⟩ (dk DX2_readLine 56 rfl) (fun H locs hR => ?_)
            refine lv_goto (tgt := 223) hx hb (dk DX2_readLine 57 rfl) (by decide) ?_
            cases hF
            exact r_vret C hrt hR (dk DX2_readLine 114 rfl)
        · have hF := if_t c72 hF
          refine lv_aload_n hx hb (dk DX2_readLine 36 rfl) rfl (lv_at hl 0 rfl) ?_
          refine lv_iconst (v := (3 : Int32)) hx hb (dk DX2_readLine 37 rfl) (by decide) ?_
          refine lv_aload_n hx hb (dk DX2_readLine 38 rfl) rfl (lv_at hl 0 rfl) ?_
          obtain ⟨xq59, mq57, hzq58, hF⟩ := bnd_ex hF
          refine r_callVi (As := []) (rest := [.int (3 : Int32), .ref (G.2.1 + 46)]) C hR (C_GT_readBits l hl0 G mq8 _ _ hzq58) (by decide) (by decide) ob46 rfl wX2_59 rfl rfl (Nat.le_of_ble_eq_true rfl) hl.1 ⟨Nat.zero_le _, Nat.zero_le _⟩ (dk DX2_readLine 39 rfl) (fun H locs hR => ?_)
          refine lv_iconst (v := (0 : Int32)) hx hb (dk DX2_readLine 40 rfl) (by decide) ?_
          refine lv_iconst (v := (0 : Int32)) hx hb (dk DX2_readLine 41 rfl) (by decide) ?_
          refine lv_iconst (v := (0 : Int32)) hx hb (dk DX2_readLine 42 rfl) (by decide) ?_
          obtain ⟨uq62, mq60, hzq61, hF⟩ := bnd_ex hF
          refine r_callVv (As := [.int (3 : Int32), .int xq59, .int (0 : Int32), .int (0 : Int32), .int (0 : Int32)]) (rest := []) C hR (C_GT_keep l hl0 G (3 : Int32) xq59 (0 : Int32) (0 : Int32) (0 : Int32) mq57 _ _ hzq61) (by decide) (by decide) ob46 rfl wX2_43 rfl rfl (Nat.le_of_ble_eq_true rfl) hl.1 ⟨Nat.zero_le _, Nat.zero_le _⟩ (dk DX2_readLine 43 rfl) (fun H locs hR => ?_)
          refine lv_goto (tgt := 223) hx hb (dk DX2_readLine 44 rfl) (by decide) ?_
          cases hF
          exact r_vret C hrt hR (dk DX2_readLine 114 rfl)
      · have hF := if_t c56 hF
        refine lv_aload_n hx hb (dk DX2_readLine 29 rfl) rfl (lv_at hl 0 rfl) ?_
        obtain ⟨uq65, mq63, hzq64, hF⟩ := bnd_ex hF
        refine r_callVv (As := []) (rest := []) C hR (C_GT_readSlot l hl0 G mq5 _ _ hzq64) (by decide) (by decide) ob46 rfl wX2_54 rfl rfl (Nat.le_of_ble_eq_true rfl) hl.1 ⟨Nat.zero_le _, Nat.zero_le _⟩ (dk DX2_readLine 30 rfl) (fun H locs hR => ?_)
        refine lv_goto (tgt := 223) hx hb (dk DX2_readLine 31 rfl) (by decide) ?_
        cases hF
        exact r_vret C hrt hR (dk DX2_readLine 114 rfl)
    · have hF := if_t c40 hF
      refine lv_aload_n hx hb (dk DX2_readLine 22 rfl) rfl (lv_at hl 0 rfl) ?_
      obtain ⟨uq68, mq66, hzq67, hF⟩ := bnd_ex hF
      refine r_callVv (As := []) (rest := []) C hR (C_GT_readSide l hl0 G mq2 _ _ hzq67) (by decide) (by decide) ob46 rfl wX2_49 rfl rfl (Nat.le_of_ble_eq_true rfl) hl.1 ⟨Nat.zero_le _, Nat.zero_le _⟩ (dk DX2_readLine 23 rfl) (fun H locs hR => ?_)
      refine lv_goto (tgt := 223) hx hb (dk DX2_readLine 24 rfl) (by decide) ?_
      cases hF
      exact r_vret C hrt hR (dk DX2_readLine 114 rfl)
  refine z_ifeq (tgt := 34) hx hb (dk DX2_readLine 2 rfl) (by decide) (fun c4 => ?_) (fun c4 => ?_)
  · have hF := if_f c4 hF
    exact J34 m0 _ _ ls (lv_sub hl [0] rfl) hR hF
  · have hF := if_t c4 hF
    refine lv_aload_n hx hb (dk DX2_readLine 3 rfl) rfl (lv_at hl 0 rfl) ?_
    refine r_lds C (strm_X2_33) (dk DX2_readLine 4 rfl) ?_
    obtain ⟨zq71, mq69, hzq70, hF⟩ := bnd_ex hF
    refine r_callUi (As := [.ref (G.2.2.2.2.2.2 ("sessions"))]) (rest := []) C hR (C_Tx_takesWordG l hl0 G ("sessions") m0 txm_0 _ _ hzq70) (by decide) (by decide) ob46 rfl wX2_35_2 rfl rfl (Nat.le_of_ble_eq_true rfl) hl.1 ⟨Nat.zero_le _, Nat.zero_le _⟩ (dk DX2_readLine 5 rfl) (fun H locs hR => ?_)
    refine z_ifeq (tgt := 34) hx hb (dk DX2_readLine 6 rfl) (by decide) (fun c13 => ?_) (fun c13 => ?_)
    · have hF := if_f c13 hF
      exact J34 mq69 _ _ ls (lv_sub hl [0] rfl) hR hF
    · have hF := if_t c13 hF
      refine lv_aload_n hx hb (dk DX2_readLine 7 rfl) rfl (lv_at hl 0 rfl) ?_
      refine lv_iconst (v := (0 : Int32)) hx hb (dk DX2_readLine 8 rfl) (by decide) ?_
      refine lv_aload_n hx hb (dk DX2_readLine 9 rfl) rfl (lv_at hl 0 rfl) ?_
      refine lv_iconst (v := (1 : Int32)) hx hb (dk DX2_readLine 10 rfl) (by decide) ?_
      refine lv_bipush (v := (9 : Int32)) hx hb (dk DX2_readLine 11 rfl) (by decide) ?_
      obtain ⟨xq74, mq72, hzq73, hF⟩ := bnd_ex hF
      refine r_callUi (As := [.int (1 : Int32), .int (9 : Int32)]) (rest := [.int (0 : Int32), .ref (G.2.1 + 46)]) C hR (C_Tx_numberG l hl0 G (1 : Int32) (9 : Int32) mq69 _ _ hzq73) (by decide) (by decide) ob46 rfl wX2_39_2 rfl rfl (Nat.le_of_ble_eq_true rfl) hl.1 ⟨Nat.zero_le _, Nat.zero_le _⟩ (dk DX2_readLine 12 rfl) (fun H locs hR => ?_)
      refine lv_iconst (v := (0 : Int32)) hx hb (dk DX2_readLine 13 rfl) (by decide) ?_
      refine lv_iconst (v := (0 : Int32)) hx hb (dk DX2_readLine 14 rfl) (by decide) ?_
      refine lv_iconst (v := (0 : Int32)) hx hb (dk DX2_readLine 15 rfl) (by decide) ?_
      obtain ⟨uq77, mq75, hzq76, hF⟩ := bnd_ex hF
      refine r_callVv (As := [.int (0 : Int32), .int xq74, .int (0 : Int32), .int (0 : Int32), .int (0 : Int32)]) (rest := []) C hR (C_GT_keep l hl0 G (0 : Int32) xq74 (0 : Int32) (0 : Int32) (0 : Int32) mq72 _ _ hzq76) (by decide) (by decide) ob46 rfl wX2_43 rfl rfl (Nat.le_of_ble_eq_true rfl) hl.1 ⟨Nat.zero_le _, Nat.zero_le _⟩ (dk DX2_readLine 16 rfl) (fun H locs hR => ?_)
      refine lv_goto (tgt := 223) hx hb (dk DX2_readLine 17 rfl) (by decide) ?_
      cases hF
      exact r_vret C hrt hR (dk DX2_readLine 114 rfl)
set_option maxHeartbeats 4000000 in
set_option maxRecDepth 100000 in
theorem C_Tx_takesSignG (l : Launch) (hl0 : l.stackTraces = false) (G : GG) (a1 : Int32) (m0 : Mem) (v : Bool) (m' : Mem) (hF : F_Tx_takesSignG a1 m0 = some (v, m')) : Ct l G mr0 N0 yX9_takesSign cX9_takesSign 2 (some .boolean) 2 [.ref (G.2.1 + 46), .int a1] m0 (some (.int (b2i v))) m' := by
  refine Ct_of hl0 (by decide) (Nat.le_of_ble_eq_true rfl) ?_
  intro p e s mid args below meth c ls C hrt hl hR
  have hx := C.1.1
  have hb := C.1.2.1
  have hl : lv_has ls 2 [(0, .ref (G.2.1 + 46)), (1, .int a1)] := hl
  unfold F_Tx_takesSignG at hF
  refine lv_aload_n hx hb (dk DX9_takesSign 0 rfl) rfl (lv_at hl 0 rfl) ?_
  refine lv_iconst (v := (2 : Int32)) hx hb (dk DX9_takesSign 1 rfl) (by decide) ?_
  obtain ⟨zq3, mq1, hzq2, hF⟩ := bnd_ex hF
  refine r_callVi (As := [.int (2 : Int32)]) (rest := []) C hR (C_Tx_isAtG l hl0 G (2 : Int32) m0 _ _ hzq2) (by decide) (by decide) ob46 rfl wX9_44_2 rfl rfl (Nat.le_of_ble_eq_true rfl) hl.1 ⟨Nat.zero_le _, Nat.zero_le _⟩ (dk DX9_takesSign 2 rfl) (fun H locs hR => ?_)
  refine z_ifeq (tgt := 25) hx hb (dk DX9_takesSign 3 rfl) (by decide) (fun c5 => ?_) (fun c5 => ?_)
  · have hF := if_f c5 hF
    refine lv_iconst (v := (0 : Int32)) hx hb (dk DX9_takesSign 13 rfl) (by decide) ?_
    cases hF
    exact r_zret C hrt hR (dk DX9_takesSign 14 rfl)
  · have hF := if_t c5 hF
    refine lv_aload_n hx hb (dk DX9_takesSign 4 rfl) rfl (lv_at hl 0 rfl) ?_
    refine lv_aload_n hx hb (dk DX9_takesSign 5 rfl) rfl (lv_at hl 0 rfl) ?_
    refine gX9_18_2 C hR ob46 rf46_2 (dk DX9_takesSign 6 rfl) ?_
    refine lv_aload_n hx hb (dk DX9_takesSign 7 rfl) rfl (lv_at hl 0 rfl) ?_
    refine gX9_28_2 C hR ob46 (dk DX9_takesSign 8 rfl) ?_
    obtain ⟨hq4, hF⟩ := ckB_ex hF
    refine r_iald C hR ob49 hq4 (dk DX9_takesSign 9 rfl) ?_
    refine lv_topi (fun xq5 exq5 => ?_)
    have hF := lt_at exq5 hF
    obtain ⟨xq8, mq6, hzq7, hF⟩ := bnd_ex hF
    refine r_callVi (As := [.int xq5]) (rest := []) C hR (C_Tx_byteAtG l hl0 G xq5 mq1 _ _ hzq7) (by decide) (by decide) ob46 rfl wX9_69_2 rfl rfl (Nat.le_of_ble_eq_true rfl) hl.1 ⟨Nat.zero_le _, Nat.zero_le _⟩ (dk DX9_takesSign 10 rfl) (fun H locs hR => ?_)
    refine lv_iload_n hx hb (dk DX9_takesSign 11 rfl) rfl (lv_at hl 1 rfl) ?_
    refine lv_icmp_eq (tgt := 27) hx hb (dk DX9_takesSign 12 rfl) (by decide) (fun c22 => ?_) (fun c22 => ?_)
    · have hF := if_t c22 hF
      refine lv_aload_n hx hb (dk DX9_takesSign 15 rfl) rfl (lv_at hl 0 rfl) ?_
      refine lv_dup hx hb (dk DX9_takesSign 16 rfl) rfl ?_
      refine gX9_28_2 C hR ob46 (dk DX9_takesSign 17 rfl) ?_
      refine lv_iconst (v := (1 : Int32)) hx hb (dk DX9_takesSign 18 rfl) (by decide) ?_
      refine lv_iadd hx hb (dk DX9_takesSign 19 rfl) ?_
      refine pX9_28_2 (x := (gI mq6 46 5) + (1 : Int32)) C hR ob46 (dk DX9_takesSign 20 rfl) (fun H locs hR => ?_)
      obtain ⟨mq9, emq9, hF⟩ := lt_ex hF
      have hR := Rp_at emq9 hR
      refine lv_iconst (v := (1 : Int32)) hx hb (dk DX9_takesSign 21 rfl) (by decide) ?_
      cases hF
      exact r_zret C hrt hR (dk DX9_takesSign 22 rfl)
    · have hF := if_f c22 hF
      refine lv_iconst (v := (0 : Int32)) hx hb (dk DX9_takesSign 13 rfl) (by decide) ?_
      cases hF
      exact r_zret C hrt hR (dk DX9_takesSign 14 rfl)
set_option maxHeartbeats 4000000 in
set_option maxRecDepth 100000 in
theorem C_Tx_readLinesG (l : Launch) (hl0 : l.stackTraces = false) (G : GG) (a2 : Int32) (a3 : Int32) (m0 : Mem) (v : Int32) (m' : Mem) (hF : F_Tx_readLinesG a2 a3 m0 = some (v, m')) : Ct l G mr0 N0 yX9_readLines cX9_readLines 5 (some .int) 13 [.ref (G.2.1 + 46), .ref (G.2.1 + 1), .int a2, .int a3] m0 (some (.int v)) m' := by
  refine Ct_of hl0 (by decide) (Nat.le_of_ble_eq_true rfl) ?_
  intro p e s mid args below meth c ls C hrt hl hR
  have hx := C.1.1
  have hb := C.1.2.1
  have hl : lv_has ls 5 [(0, .ref (G.2.1 + 46)), (1, .ref (G.2.1 + 1)), (2, .int a2), (3, .int a3)] := hl
  unfold F_Tx_readLinesG at hF
  refine lv_aload_n hx hb (dk DX9_readLines 0 rfl) rfl (lv_at hl 0 rfl) ?_
  refine lv_aload_n hx hb (dk DX9_readLines 1 rfl) rfl (lv_at hl 1 rfl) ?_
  refine lv_iload_n hx hb (dk DX9_readLines 2 rfl) rfl (lv_at hl 2 rfl) ?_
  refine lv_aload_n hx hb (dk DX9_readLines 3 rfl) rfl (lv_at hl 1 rfl) ?_
  refine r_aleni (v := (400 : Int32)) C hR ob1 rfl (dk DX9_readLines 4 rfl) ?_
  refine lv_sipush (v := (400 : Int32)) hx hb (dk DX9_readLines 5 rfl) (by decide) ?_
  refine r_mnI C (gd q801 rfl) (by decide) (Nat.le_of_ble_eq_true rfl) hl.1 ⟨Nat.zero_le _, Nat.zero_le _⟩ (dk DX9_readLines 6 rfl) ?_
  refine r_mnI C (gd q801 rfl) (by decide) (Nat.le_of_ble_eq_true rfl) hl.1 ⟨Nat.zero_le _, Nat.zero_le _⟩ (dk DX9_readLines 7 rfl) ?_
  obtain ⟨uq3, mq1, hzq2, hF⟩ := bnd_ex hF
  refine r_callVv (As := [.ref (G.2.1 + 1), .int (mnI a2 (mnI (400 : Int32) (400 : Int32)))]) (rest := []) C hR (C_Tx_cutG l hl0 G (mnI a2 (mnI (400 : Int32) (400 : Int32))) m0 _ _ hzq2) (by decide) (by decide) ob46 rfl wX9_40_2 rfl rfl (Nat.le_of_ble_eq_true rfl) hl.1 ⟨Nat.zero_le _, Nat.zero_le _⟩ (dk DX9_readLines 8 rfl) (fun H locs hR => ?_)
  refine lv_aload_n hx hb (dk DX9_readLines 9 rfl) rfl (lv_at hl 0 rfl) ?_
  refine lv_iconst (v := (0 : Int32)) hx hb (dk DX9_readLines 10 rfl) (by decide) ?_
  refine pX9_28_2 (x := (0 : Int32)) C hR ob46 (dk DX9_readLines 11 rfl) (fun H locs hR => ?_)
  obtain ⟨mq4, emq4, hF⟩ := lt_ex hF
  have hR := Rp_at emq4 hR
  refine lv_aload_n hx hb (dk DX9_readLines 12 rfl) rfl (lv_at hl 0 rfl) ?_
  refine lv_iconst (v := (-1 : Int32)) hx hb (dk DX9_readLines 13 rfl) (by decide) ?_
  refine pX9_31_2 (x := (-1 : Int32)) C hR ob46 (dk DX9_readLines 14 rfl) (fun H locs hR => ?_)
  obtain ⟨mq5, emq5, hF⟩ := lt_ex hF
  have hR := Rp_at emq5 hR
  refine lv_aload_n hx hb (dk DX9_readLines 15 rfl) rfl (lv_at hl 0 rfl) ?_
  refine lv_iconst (v := (3 : Int32)) hx hb (dk DX9_readLines 16 rfl) (by decide) ?_
  obtain ⟨zq8, mq6, hzq7, hF⟩ := bnd_ex hF
  refine r_callVi (As := [.int (3 : Int32)]) (rest := []) C hR (C_Tx_isAtG l hl0 G (3 : Int32) mq5 _ _ hzq7) (by decide) (by decide) ob46 rfl wX9_44_2 rfl rfl (Nat.le_of_ble_eq_true rfl) hl.1 ⟨Nat.zero_le _, Nat.zero_le _⟩ (dk DX9_readLines 17 rfl) (fun H locs hR => ?_)
  refine z_ifeq (tgt := 37) hx hb (dk DX9_readLines 18 rfl) (by decide) (fun c32 => ?_) (fun c32 => ?_)
  · have hF := if_f c32 hF
    refine lv_iconst (v := (1 : Int32)) hx hb (dk DX9_readLines 21 rfl) (by decide) ?_
    refine lv_istore (lv' := [(4, .int (1 : Int32)), (0, .ref (G.2.1 + 46)), (1, .ref (G.2.1 + 1)), (2, .int a2), (3, .int a3)]) hx hb (dk DX9_readLines 22 rfl) hl (by decide) rfl (fun ls hl => ?_)
    obtain ⟨k78_10, ek78_10, hF⟩ := lt_ex hF
    have J78 : ∀ (xq10 : Int32) (mq9 : Mem) (H : Heap) (locs : List Loc) (ls : Array Slot), lv_has ls 5 [(0, .ref (G.2.1 + 46)), (4, .int xq10)] → Rp G mr0 N0 mq9 s H locs → k78_10 xq10 mq9 = some (v, m') → W p l e (rmD 13) s mid args below meth c H locs 0 0 (MQ below (QR G mr0 N0 (some (.int v)) m') args s 0 0 (fun q => G.2.1 ≤ q)) (F0 mid 78 ls []) := by
      intro xq10 mq9 H locs ls hl hR hF
      rw [ek78_10] at hF
      refine lv_aload_n hx hb (dk DX9_readLines 42 rfl) rfl (lv_at hl 0 rfl) ?_
      obtain ⟨uq13, mq11, hzq12, hF⟩ := bnd_ex hF
      refine r_callVv (As := []) (rest := []) C hR (C_Tx_setWrongG l hl0 G mq9 _ _ hzq12) (by decide) (by decide) ob46 rfl wX9_55_2 rfl rfl (Nat.le_of_ble_eq_true rfl) hl.1 ⟨Nat.zero_le _, Nat.zero_le _⟩ (dk DX9_readLines 43 rfl) (fun H locs hR => ?_)
      refine lv_iload hx hb (dk DX9_readLines 44 rfl) (lv_at hl 1 rfl) ?_
      cases hF
      exact r_iret C hrt hR (dk DX9_readLines 45 rfl)
    obtain ⟨k91_14, ek91_14, hF⟩ := lt_ex hF
    have J91 : ∀ (mq14 : Mem) (H : Heap) (locs : List Loc) (ls : Array Slot), lv_has ls 5 [(0, .ref (G.2.1 + 46)), (3, .int a3)] → Rp G mr0 N0 mq14 s H locs → k91_14  mq14 = some (v, m') → W p l e (rmD 13) s mid args below meth c H locs 0 0 (MQ below (QR G mr0 N0 (some (.int v)) m') args s 0 0 (fun q => G.2.1 ≤ q)) (F0 mid 91 ls []) := by
      intro  mq14 H locs ls hl hR hF
      rw [ek91_14] at hF
      refine lv_aload_n hx hb (dk DX9_readLines 48 rfl) rfl (lv_at hl 0 rfl) ?_
      obtain ⟨uq17, mq15, hzq16, hF⟩ := bnd_ex hF
      refine r_callVv (As := []) (rest := []) C hR (C_Tx_setWrongG l hl0 G mq14 _ _ hzq16) (by decide) (by decide) ob46 rfl wX9_55_2 rfl rfl (Nat.le_of_ble_eq_true rfl) hl.1 ⟨Nat.zero_le _, Nat.zero_le _⟩ (dk DX9_readLines 49 rfl) (fun H locs hR => ?_)
      refine lv_iload_n hx hb (dk DX9_readLines 50 rfl) rfl (lv_at hl 1 rfl) ?_
      cases hF
      exact r_iret C hrt hR (dk DX9_readLines 51 rfl)
    have L40 : ∀ (nf : Nat) (xq19 : Int32) (mq18 : Mem) (H : Heap) (locs : List Loc) (ls : Array Slot), lv_has ls 5 [(0, .ref (G.2.1 + 46)), (3, .int a3), (4, .int xq19)] → Rp G mr0 N0 mq18 s H locs → F_Tx_readLinesG_L40 a3 k78_10 k91_14 nf xq19 mq18 = some (v, m') → W p l e (rmD 13) s mid args below meth c H locs 0 0 (MQ below (QR G mr0 N0 (some (.int v)) m') args s 0 0 (fun q => G.2.1 ≤ q)) (F0 mid 40 ls []) := by
      intro nf
      induction nf with
      | zero =>
        intro xq19 mq18 H locs ls hl hR hF
        rw [F_Tx_readLinesG_L40] at hF
        cases hF
      | succ nf ihq21 =>
        intro xq19 mq18 H locs ls hl hR hF
        rw [F_Tx_readLinesG_L40] at hF
        refine lv_iload hx hb (dk DX9_readLines 23 rfl) (lv_at hl 2 rfl) ?_
        refine lv_iload_n hx hb (dk DX9_readLines 24 rfl) rfl (lv_at hl 1 rfl) ?_
        refine lv_icmp_gt (tgt := 91) hx hb (dk DX9_readLines 25 rfl) (by decide) (fun c43 => ?_) (fun c43 => ?_)
        · have hF := if_t c43 hF
          exact J91 mq18 _ _ ls (lv_sub hl [0, 1] rfl) hR hF
        · have hF := if_f c43 hF
          refine lv_aload_n hx hb (dk DX9_readLines 26 rfl) rfl (lv_at hl 0 rfl) ?_
          obtain ⟨uq24, mq22, hzq23, hF⟩ := bnd_ex hF
          refine r_callOv (As := []) (rest := []) C hR (C_GT_readLine l hl0 G mq18 _ _ hzq23) (by decide) (by decide) ob46 rfl wX9_48_2 rfl rfl (Nat.le_of_ble_eq_true rfl) hl.1 ⟨Nat.zero_le _, Nat.zero_le _⟩ (dk DX9_readLines 27 rfl) (fun H locs hR => ?_)
          refine lv_aload_n hx hb (dk DX9_readLines 28 rfl) rfl (lv_at hl 0 rfl) ?_
          refine gX9_31_2 C hR ob46 (dk DX9_readLines 29 rfl) ?_
          refine lv_iconst (v := (-1 : Int32)) hx hb (dk DX9_readLines 30 rfl) (by decide) ?_
          refine lv_icmp_ne (tgt := 66) hx hb (dk DX9_readLines 31 rfl) (by decide) (fun c55 => ?_) (fun c55 => ?_)
          · have hF := if_f c55 hF
            refine lv_iload hx hb (dk DX9_readLines 36 rfl) (lv_at hl 2 rfl) ?_
            cases hF
            exact r_iret C hrt hR (dk DX9_readLines 37 rfl)
          · have hF := if_t c55 hF
            refine lv_aload_n hx hb (dk DX9_readLines 32 rfl) rfl (lv_at hl 0 rfl) ?_
            refine lv_iconst (v := (3 : Int32)) hx hb (dk DX9_readLines 33 rfl) (by decide) ?_
            obtain ⟨zq27, mq25, hzq26, hF⟩ := bnd_ex hF
            refine r_callVi (As := [.int (3 : Int32)]) (rest := []) C hR (C_Tx_isAtG l hl0 G (3 : Int32) mq22 _ _ hzq26) (by decide) (by decide) ob46 rfl wX9_44_2 rfl rfl (Nat.le_of_ble_eq_true rfl) hl.1 ⟨Nat.zero_le _, Nat.zero_le _⟩ (dk DX9_readLines 34 rfl) (fun H locs hR => ?_)
            refine z_ifeq (tgt := 69) hx hb (dk DX9_readLines 35 rfl) (by decide) (fun c63 => ?_) (fun c63 => ?_)
            · have hF := if_f c63 hF
              refine lv_aload_n hx hb (dk DX9_readLines 38 rfl) rfl (lv_at hl 0 rfl) ?_
              refine lv_bipush (v := (59 : Int32)) hx hb (dk DX9_readLines 39 rfl) (by decide) ?_
              obtain ⟨zq30, mq28, hzq29, hF⟩ := bnd_ex hF
              refine r_callVi (As := [.int (59 : Int32)]) (rest := []) C hR (C_Tx_takesSignG l hl0 G (59 : Int32) mq25 _ _ hzq29) (by decide) (by decide) ob46 rfl wX9_51_2 rfl rfl (Nat.le_of_ble_eq_true rfl) hl.1 ⟨Nat.zero_le _, Nat.zero_le _⟩ (dk DX9_readLines 40 rfl) (fun H locs hR => ?_)
              refine z_ifne (tgt := 85) hx hb (dk DX9_readLines 41 rfl) (by decide) (fun c75 => ?_) (fun c75 => ?_)
              · have hF := if_t c75 hF
                obtain ⟨xq31, exq31, hF⟩ := lt_ex hF
                refine lv_iinc (v := xq31) (lv' := [(4, .int xq31), (0, .ref (G.2.1 + 46)), (3, .int a3)]) hx hb (dk DX9_readLines 46 rfl) hl (k := 2) rfl (by rw [exq31]; rfl) (by decide) rfl (fun ls hl => ?_)
                refine lv_goto (tgt := 40) hx hb (dk DX9_readLines 47 rfl) (by decide) ?_
                exact ihq21 xq31 mq28 _ _ ls (lv_sub hl [1, 2, 0] rfl) hR hF
              · have hF := if_f c75 hF
                exact J78 xq19 mq28 _ _ ls (lv_sub hl [0, 2] rfl) hR hF
            · have hF := if_t c63 hF
              refine lv_iload hx hb (dk DX9_readLines 36 rfl) (lv_at hl 2 rfl) ?_
              cases hF
              exact r_iret C hrt hR (dk DX9_readLines 37 rfl)
    exact L40 1000000 (1 : Int32) mq6 _ _ ls (lv_sub hl [1, 4, 0] rfl) hR hF
  · have hF := if_t c32 hF
    refine lv_iconst (v := (0 : Int32)) hx hb (dk DX9_readLines 19 rfl) (by decide) ?_
    cases hF
    exact r_iret C hrt hR (dk DX9_readLines 20 rfl)
set_option maxHeartbeats 4000000 in
set_option maxRecDepth 100000 in
theorem C_GT_readGround (l : Launch) (hl0 : l.stackTraces = false) (G : GG) (a2 : Int32) (a3 : Bool) (a4 : Int32) (m0 : Mem) (v : Int32) (m' : Mem) (hF : F_GT_readGround a2 a3 a4 m0 = some (v, m')) : Ct l G mr0 N0 yX2_readGround cX2_readGround 5 (some .int) 14 [.ref (G.2.1 + 46), .ref (G.2.1 + 1), .int a2, .int (b2i a3), .int a4] m0 (some (.int v)) m' := by
  refine Ct_of hl0 (by decide) (Nat.le_of_ble_eq_true rfl) ?_
  intro p e s mid args below meth c ls C hrt hl hR
  have hx := C.1.1
  have hb := C.1.2.1
  have hl : lv_has ls 5 [(0, .ref (G.2.1 + 46)), (1, .ref (G.2.1 + 1)), (2, .int a2), (3, .int (b2i a3)), (4, .int a4)] := hl
  unfold F_GT_readGround at hF
  refine lv_aload_n hx hb (dk DX2_readGround 0 rfl) rfl (lv_at hl 0 rfl) ?_
  refine lv_iconst (v := (0 : Int32)) hx hb (dk DX2_readGround 1 rfl) (by decide) ?_
  refine pX2_15 (x := (0 : Int32)) C hR ob46 (dk DX2_readGround 2 rfl) (fun H locs hR => ?_)
  obtain ⟨mq1, emq1, hF⟩ := lt_ex hF
  have hR := Rp_at emq1 hR
  refine lv_aload_n hx hb (dk DX2_readGround 3 rfl) rfl (lv_at hl 0 rfl) ?_
  refine lv_iload hx hb (dk DX2_readGround 4 rfl) (lv_at hl 4 rfl) ?_
  refine pX2_19 (x := a4) C hR ob46 (dk DX2_readGround 5 rfl) (fun H locs hR => ?_)
  obtain ⟨mq2, emq2, hF⟩ := lt_ex hF
  have hR := Rp_at emq2 hR
  refine lv_aload_n hx hb (dk DX2_readGround 6 rfl) rfl (lv_at hl 0 rfl) ?_
  refine lv_iload_n hx hb (dk DX2_readGround 7 rfl) rfl (lv_at hl 3 rfl) ?_
  refine pX2_22 (x := a3) C hR ob46 (dk DX2_readGround 8 rfl) (fun H locs hR => ?_)
  obtain ⟨mq3, emq3, hF⟩ := lt_ex hF
  have hR := Rp_at emq3 hR
  refine lv_aload_n hx hb (dk DX2_readGround 9 rfl) rfl (lv_at hl 0 rfl) ?_
  refine lv_aload_n hx hb (dk DX2_readGround 10 rfl) rfl (lv_at hl 1 rfl) ?_
  refine lv_iload_n hx hb (dk DX2_readGround 11 rfl) rfl (lv_at hl 2 rfl) ?_
  refine lv_bipush (v := (14 : Int32)) hx hb (dk DX2_readGround 12 rfl) (by decide) ?_
  obtain ⟨xq6, mq4, hzq5, hF⟩ := bnd_ex hF
  refine r_callUi (As := [.ref (G.2.1 + 1), .int a2, .int (14 : Int32)]) (rest := []) C hR (C_Tx_readLinesG l hl0 G a2 (14 : Int32) mq3 _ _ hzq5) (by decide) (by decide) ob46 rfl wX2_26_2 rfl rfl (Nat.le_of_ble_eq_true rfl) hl.1 ⟨Nat.zero_le _, Nat.zero_le _⟩ (dk DX2_readGround 13 rfl) (fun H locs hR => ?_)
  refine lv_pop hx hb (dk DX2_readGround 14 rfl) rfl ?_
  refine lv_aload_n hx hb (dk DX2_readGround 15 rfl) rfl (lv_at hl 0 rfl) ?_
  refine gX2_30 C hR ob46 (dk DX2_readGround 16 rfl) ?_
  cases hF
  exact r_iret C hrt hR (dk DX2_readGround 17 rfl)
set_option maxHeartbeats 4000000 in
set_option maxRecDepth 100000 in
theorem C_Gr_setSide (l : Launch) (hl0 : l.stackTraces = false) (G : GG) (a1 : Int32) (a2 : Int32) (a3 : Int32) (m0 : Mem) (v : Unit) (m' : Mem) (hF : F_Gr_setSide a1 a2 a3 m0 = some (v, m')) : Ct l G mr0 N0 yX1_setSide cX1_setSide 4 none 1 [.ref (G.2.1 + 3), .int a1, .int a2, .int a3] m0 none m' := by
  refine Ct_of hl0 (by decide) (Nat.le_of_ble_eq_true rfl) ?_
  intro p e s mid args below meth c ls C hrt hl hR
  have hx := C.1.1
  have hb := C.1.2.1
  have hl : lv_has ls 4 [(0, .ref (G.2.1 + 3)), (1, .int a1), (2, .int a2), (3, .int a3)] := hl
  unfold F_Gr_setSide at hF
  refine lv_iload_n hx hb (dk DX1_setSide 0 rfl) rfl (lv_at hl 1 rfl) ?_
  refine lv_if_lt (tgt := 23) hx hb (dk DX1_setSide 1 rfl) (by decide) (fun c1 => ?_) (fun c1 => ?_)
  · have hF := if_t c1 hF
    cases hF
    exact r_vret C hrt hR (dk DX1_setSide 15 rfl)
  · have hF := if_f c1 hF
    refine lv_iload_n hx hb (dk DX1_setSide 2 rfl) rfl (lv_at hl 1 rfl) ?_
    refine lv_iconst (v := (2 : Int32)) hx hb (dk DX1_setSide 3 rfl) (by decide) ?_
    refine lv_icmp_ge (tgt := 23) hx hb (dk DX1_setSide 4 rfl) (by decide) (fun c6 => ?_) (fun c6 => ?_)
    · have hF := if_t c6 hF
      cases hF
      exact r_vret C hrt hR (dk DX1_setSide 15 rfl)
    · have hF := if_f c6 hF
      refine lv_aload_n hx hb (dk DX1_setSide 5 rfl) rfl (lv_at hl 0 rfl) ?_
      refine gX1_33 C hR ob3 rf3_7 (dk DX1_setSide 6 rfl) ?_
      refine lv_iload_n hx hb (dk DX1_setSide 7 rfl) rfl (lv_at hl 1 rfl) ?_
      refine lv_iload_n hx hb (dk DX1_setSide 8 rfl) rfl (lv_at hl 2 rfl) ?_
      obtain ⟨hq2, hF⟩ := ckB_ex hF
      refine r_iast C hR ob4 hq2 (dk DX1_setSide 9 rfl) (fun H locs hR => ?_)
      obtain ⟨mq1, emq1, hF⟩ := lt_ex hF
      have hR := Rp_at emq1 hR
      refine lv_aload_n hx hb (dk DX1_setSide 10 rfl) rfl (lv_at hl 0 rfl) ?_
      refine gX1_37 C hR ob3 rf3_8 (dk DX1_setSide 11 rfl) ?_
      refine lv_iload_n hx hb (dk DX1_setSide 12 rfl) rfl (lv_at hl 1 rfl) ?_
      refine lv_iload_n hx hb (dk DX1_setSide 13 rfl) rfl (lv_at hl 3 rfl) ?_
      obtain ⟨hq4, hF⟩ := ckB_ex hF
      refine r_iast C hR ob5 hq4 (dk DX1_setSide 14 rfl) (fun H locs hR => ?_)
      obtain ⟨mq3, emq3, hF⟩ := lt_ex hF
      have hR := Rp_at emq3 hR
      cases hF
      exact r_vret C hrt hR (dk DX1_setSide 15 rfl)
set_option maxHeartbeats 4000000 in
set_option maxRecDepth 100000 in
theorem C_Gr_setSlot (l : Launch) (hl0 : l.stackTraces = false) (G : GG) (a1 : Int32) (a2 : Int32) (a3 : Int32) (a4 : Int32) (m0 : Mem) (v : Unit) (m' : Mem) (hF : F_Gr_setSlot a1 a2 a3 a4 m0 = some (v, m')) : Ct l G mr0 N0 yX1_setSlot cX1_setSlot 6 none 1 [.ref (G.2.1 + 3), .int a1, .int a2, .int a3, .int a4] m0 none m' := by
  refine Ct_of hl0 (by decide) (Nat.le_of_ble_eq_true rfl) ?_
  intro p e s mid args below meth c ls C hrt hl hR
  have hx := C.1.1
  have hb := C.1.2.1
  have hl : lv_has ls 6 [(0, .ref (G.2.1 + 3)), (1, .int a1), (2, .int a2), (3, .int a3), (4, .int a4)] := hl
  unfold F_Gr_setSlot at hF
  refine lv_iload_n hx hb (dk DX1_setSlot 0 rfl) rfl (lv_at hl 1 rfl) ?_
  refine lv_iconst (v := (4 : Int32)) hx hb (dk DX1_setSlot 1 rfl) (by decide) ?_
  refine lv_imul hx hb (dk DX1_setSlot 2 rfl) ?_
  refine lv_iload_n hx hb (dk DX1_setSlot 3 rfl) rfl (lv_at hl 2 rfl) ?_
  refine lv_iadd hx hb (dk DX1_setSlot 4 rfl) ?_
  refine lv_topi (fun xq1 exq1 => ?_)
  have hF := lt_at exq1 hF
  refine lv_istore (lv' := [(5, .int xq1), (0, .ref (G.2.1 + 3)), (1, .int a1), (2, .int a2), (3, .int a3), (4, .int a4)]) hx hb (dk DX1_setSlot 5 rfl) hl (by decide) rfl (fun ls hl => ?_)
  refine lv_iload hx hb (dk DX1_setSlot 6 rfl) (lv_at hl 0 rfl) ?_
  refine lv_if_lt (tgt := 36) hx hb (dk DX1_setSlot 7 rfl) (by decide) (fun c9 => ?_) (fun c9 => ?_)
  · have hF := if_t c9 hF
    cases hF
    exact r_vret C hrt hR (dk DX1_setSlot 21 rfl)
  · have hF := if_f c9 hF
    refine lv_iload hx hb (dk DX1_setSlot 8 rfl) (lv_at hl 0 rfl) ?_
    refine lv_bipush (v := (16 : Int32)) hx hb (dk DX1_setSlot 9 rfl) (by decide) ?_
    refine lv_icmp_ge (tgt := 36) hx hb (dk DX1_setSlot 10 rfl) (by decide) (fun c16 => ?_) (fun c16 => ?_)
    · have hF := if_t c16 hF
      cases hF
      exact r_vret C hrt hR (dk DX1_setSlot 21 rfl)
    · have hF := if_f c16 hF
      refine lv_aload_n hx hb (dk DX1_setSlot 11 rfl) rfl (lv_at hl 1 rfl) ?_
      refine gX1_40 C hR ob3 rf3_9 (dk DX1_setSlot 12 rfl) ?_
      refine lv_iload hx hb (dk DX1_setSlot 13 rfl) (lv_at hl 0 rfl) ?_
      refine lv_iload_n hx hb (dk DX1_setSlot 14 rfl) rfl (lv_at hl 4 rfl) ?_
      obtain ⟨hq3, hF⟩ := ckB_ex hF
      refine r_iast C hR ob6 hq3 (dk DX1_setSlot 15 rfl) (fun H locs hR => ?_)
      obtain ⟨mq2, emq2, hF⟩ := lt_ex hF
      have hR := Rp_at emq2 hR
      refine lv_aload_n hx hb (dk DX1_setSlot 16 rfl) rfl (lv_at hl 1 rfl) ?_
      refine gX1_43 C hR ob3 rf3_10 (dk DX1_setSlot 17 rfl) ?_
      refine lv_iload hx hb (dk DX1_setSlot 18 rfl) (lv_at hl 0 rfl) ?_
      refine lv_iload hx hb (dk DX1_setSlot 19 rfl) (lv_at hl 5 rfl) ?_
      obtain ⟨hq5, hF⟩ := ckB_ex hF
      refine r_iast C hR ob7 hq5 (dk DX1_setSlot 20 rfl) (fun H locs hR => ?_)
      obtain ⟨mq4, emq4, hF⟩ := lt_ex hF
      have hR := Rp_at emq4 hR
      cases hF
      exact r_vret C hrt hR (dk DX1_setSlot 21 rfl)
set_option maxHeartbeats 4000000 in
set_option maxRecDepth 100000 in
theorem C_Bk_add (l : Launch) (hl0 : l.stackTraces = false) (G : GG) (a1 : Int32) (a2 : Int32) (a3 : Int32) (m0 : Mem) (v : Unit) (m' : Mem) (hF : F_Bk_add a1 a2 a3 m0 = some (v, m')) : Ct l G mr0 N0 yX0_add cX0_add 4 none 1 [.ref (G.2.1 + 12), .int a1, .int a2, .int a3] m0 none m' := by
  refine Ct_of hl0 (by decide) (Nat.le_of_ble_eq_true rfl) ?_
  intro p e s mid args below meth c ls C hrt hl hR
  have hx := C.1.1
  have hb := C.1.2.1
  have hl : lv_has ls 4 [(0, .ref (G.2.1 + 12)), (1, .int a1), (2, .int a2), (3, .int a3)] := hl
  unfold F_Bk_add at hF
  refine lv_aload_n hx hb (dk DX0_add 0 rfl) rfl (lv_at hl 0 rfl) ?_
  refine gX0_9 C hR ob12 (dk DX0_add 1 rfl) ?_
  refine lv_if_lt (tgt := 66) hx hb (dk DX0_add 2 rfl) (by decide) (fun c4 => ?_) (fun c4 => ?_)
  · have hF := if_t c4 hF
    cases hF
    exact r_vret C hrt hR (dk DX0_add 41 rfl)
  · have hF := if_f c4 hF
    refine lv_aload_n hx hb (dk DX0_add 3 rfl) rfl (lv_at hl 0 rfl) ?_
    refine gX0_9 C hR ob12 (dk DX0_add 4 rfl) ?_
    refine lv_bipush (v := (60 : Int32)) hx hb (dk DX0_add 5 rfl) (by decide) ?_
    refine lv_icmp_ge (tgt := 66) hx hb (dk DX0_add 6 rfl) (by decide) (fun c13 => ?_) (fun c13 => ?_)
    · have hF := if_t c13 hF
      cases hF
      exact r_vret C hrt hR (dk DX0_add 41 rfl)
    · have hF := if_f c13 hF
      refine lv_aload_n hx hb (dk DX0_add 7 rfl) rfl (lv_at hl 0 rfl) ?_
      refine gX0_15 C hR ob12 rf12_1 (dk DX0_add 8 rfl) ?_
      refine lv_aload_n hx hb (dk DX0_add 9 rfl) rfl (lv_at hl 0 rfl) ?_
      refine gX0_9 C hR ob12 (dk DX0_add 10 rfl) ?_
      refine lv_iconst (v := (3 : Int32)) hx hb (dk DX0_add 11 rfl) (by decide) ?_
      refine lv_imul hx hb (dk DX0_add 12 rfl) ?_
      refine lv_iload_n hx hb (dk DX0_add 13 rfl) rfl (lv_at hl 1 rfl) ?_
      obtain ⟨hq2, hF⟩ := ckB_ex hF
      refine r_iast C hR ob13 hq2 (dk DX0_add 14 rfl) (fun H locs hR => ?_)
      obtain ⟨mq1, emq1, hF⟩ := lt_ex hF
      have hR := Rp_at emq1 hR
      refine lv_aload_n hx hb (dk DX0_add 15 rfl) rfl (lv_at hl 0 rfl) ?_
      refine gX0_15 C hR ob12 rf12_1 (dk DX0_add 16 rfl) ?_
      refine lv_aload_n hx hb (dk DX0_add 17 rfl) rfl (lv_at hl 0 rfl) ?_
      refine gX0_9 C hR ob12 (dk DX0_add 18 rfl) ?_
      refine lv_iconst (v := (3 : Int32)) hx hb (dk DX0_add 19 rfl) (by decide) ?_
      refine lv_imul hx hb (dk DX0_add 20 rfl) ?_
      refine lv_iconst (v := (1 : Int32)) hx hb (dk DX0_add 21 rfl) (by decide) ?_
      refine lv_iadd hx hb (dk DX0_add 22 rfl) ?_
      refine lv_iload_n hx hb (dk DX0_add 23 rfl) rfl (lv_at hl 2 rfl) ?_
      obtain ⟨hq4, hF⟩ := ckB_ex hF
      refine r_iast C hR ob13 hq4 (dk DX0_add 24 rfl) (fun H locs hR => ?_)
      obtain ⟨mq3, emq3, hF⟩ := lt_ex hF
      have hR := Rp_at emq3 hR
      refine lv_aload_n hx hb (dk DX0_add 25 rfl) rfl (lv_at hl 0 rfl) ?_
      refine gX0_15 C hR ob12 rf12_1 (dk DX0_add 26 rfl) ?_
      refine lv_aload_n hx hb (dk DX0_add 27 rfl) rfl (lv_at hl 0 rfl) ?_
      refine gX0_9 C hR ob12 (dk DX0_add 28 rfl) ?_
      refine lv_iconst (v := (3 : Int32)) hx hb (dk DX0_add 29 rfl) (by decide) ?_
      refine lv_imul hx hb (dk DX0_add 30 rfl) ?_
      refine lv_iconst (v := (2 : Int32)) hx hb (dk DX0_add 31 rfl) (by decide) ?_
      refine lv_iadd hx hb (dk DX0_add 32 rfl) ?_
      refine lv_iload_n hx hb (dk DX0_add 33 rfl) rfl (lv_at hl 3 rfl) ?_
      obtain ⟨hq6, hF⟩ := ckB_ex hF
      refine r_iast C hR ob13 hq6 (dk DX0_add 34 rfl) (fun H locs hR => ?_)
      obtain ⟨mq5, emq5, hF⟩ := lt_ex hF
      have hR := Rp_at emq5 hR
      refine lv_aload_n hx hb (dk DX0_add 35 rfl) rfl (lv_at hl 0 rfl) ?_
      refine lv_dup hx hb (dk DX0_add 36 rfl) rfl ?_
      refine gX0_9 C hR ob12 (dk DX0_add 37 rfl) ?_
      refine lv_iconst (v := (1 : Int32)) hx hb (dk DX0_add 38 rfl) (by decide) ?_
      refine lv_iadd hx hb (dk DX0_add 39 rfl) ?_
      refine pX0_9 (x := (gI mq5 12 0) + (1 : Int32)) C hR ob12 (dk DX0_add 40 rfl) (fun H locs hR => ?_)
      obtain ⟨mq7, emq7, hF⟩ := lt_ex hF
      have hR := Rp_at emq7 hR
      cases hF
      exact r_vret C hrt hR (dk DX0_add 41 rfl)
set_option maxHeartbeats 4000000 in
set_option maxRecDepth 100000 in
theorem C_GT_tellLine (l : Launch) (hl0 : l.stackTraces = false) (G : GG) (a2 : Int32) (m0 : Mem) (v : Unit) (m' : Mem) (hF : F_GT_tellLine a2 m0 = some (v, m')) : Ct l G mr0 N0 yX2_tellLine cX2_tellLine 6 none 2 [.ref (G.2.1 + 46), .ref (G.2.1 + 3), .int a2] m0 none m' := by
  refine Ct_of hl0 (by decide) (Nat.le_of_ble_eq_true rfl) ?_
  intro p e s mid args below meth c ls C hrt hl hR
  have hx := C.1.1
  have hb := C.1.2.1
  have hl : lv_has ls 6 [(0, .ref (G.2.1 + 46)), (1, .ref (G.2.1 + 3)), (2, .int a2)] := hl
  unfold F_GT_tellLine at hF
  refine lv_iload_n hx hb (dk DX2_tellLine 0 rfl) rfl (lv_at hl 2 rfl) ?_
  refine lv_if_lt (tgt := 12) hx hb (dk DX2_tellLine 1 rfl) (by decide) (fun c1 => ?_) (fun c1 => ?_)
  · have hF := if_t c1 hF
    cases hF
    exact r_vret C hrt hR (dk DX2_tellLine 7 rfl)
  · have hF := if_f c1 hF
    refine lv_iload_n hx hb (dk DX2_tellLine 2 rfl) rfl (lv_at hl 2 rfl) ?_
    refine lv_iconst (v := (5 : Int32)) hx hb (dk DX2_tellLine 3 rfl) (by decide) ?_
    refine lv_iadd hx hb (dk DX2_tellLine 4 rfl) ?_
    refine lv_bipush (v := (70 : Int32)) hx hb (dk DX2_tellLine 5 rfl) (by decide) ?_
    refine lv_icmp_le (tgt := 13) hx hb (dk DX2_tellLine 6 rfl) (by decide) (fun c9 => ?_) (fun c9 => ?_)
    · have hF := if_t c9 hF
      refine lv_aload_n hx hb (dk DX2_tellLine 8 rfl) rfl (lv_at hl 0 rfl) ?_
      refine gX2_11 C hR ob46 rf46_7 (dk DX2_tellLine 9 rfl) ?_
      refine lv_iload_n hx hb (dk DX2_tellLine 10 rfl) rfl (lv_at hl 2 rfl) ?_
      refine lv_iconst (v := (1 : Int32)) hx hb (dk DX2_tellLine 11 rfl) (by decide) ?_
      refine lv_iadd hx hb (dk DX2_tellLine 12 rfl) ?_
      obtain ⟨hq1, hF⟩ := ckB_ex hF
      refine r_iald C hR ob51 hq1 (dk DX2_tellLine 13 rfl) ?_
      refine lv_topi (fun xq2 exq2 => ?_)
      have hF := lt_at exq2 hF
      refine lv_istore_n (lv' := [(3, .int xq2), (0, .ref (G.2.1 + 46)), (1, .ref (G.2.1 + 3)), (2, .int a2)]) hx hb (dk DX2_tellLine 14 rfl) rfl hl (by decide) rfl (fun ls hl => ?_)
      refine lv_aload_n hx hb (dk DX2_tellLine 15 rfl) rfl (lv_at hl 1 rfl) ?_
      refine gX2_11 C hR ob46 rf46_7 (dk DX2_tellLine 16 rfl) ?_
      refine lv_iload_n hx hb (dk DX2_tellLine 17 rfl) rfl (lv_at hl 3 rfl) ?_
      refine lv_iconst (v := (2 : Int32)) hx hb (dk DX2_tellLine 18 rfl) (by decide) ?_
      refine lv_iadd hx hb (dk DX2_tellLine 19 rfl) ?_
      obtain ⟨hq3, hF⟩ := ckB_ex hF
      refine r_iald C hR ob51 hq3 (dk DX2_tellLine 20 rfl) ?_
      refine lv_topi (fun xq4 exq4 => ?_)
      have hF := lt_at exq4 hF
      refine lv_istore (lv' := [(4, .int xq4), (3, .int xq2), (0, .ref (G.2.1 + 46)), (1, .ref (G.2.1 + 3)), (2, .int a2)]) hx hb (dk DX2_tellLine 21 rfl) hl (by decide) rfl (fun ls hl => ?_)
      refine lv_aload_n hx hb (dk DX2_tellLine 22 rfl) rfl (lv_at hl 2 rfl) ?_
      refine gX2_11 C hR ob46 rf46_7 (dk DX2_tellLine 23 rfl) ?_
      refine lv_iload_n hx hb (dk DX2_tellLine 24 rfl) rfl (lv_at hl 4 rfl) ?_
      refine lv_iconst (v := (3 : Int32)) hx hb (dk DX2_tellLine 25 rfl) (by decide) ?_
      refine lv_iadd hx hb (dk DX2_tellLine 26 rfl) ?_
      obtain ⟨hq5, hF⟩ := ckB_ex hF
      refine r_iald C hR ob51 hq5 (dk DX2_tellLine 27 rfl) ?_
      refine lv_topi (fun xq6 exq6 => ?_)
      have hF := lt_at exq6 hF
      refine lv_istore (lv' := [(5, .int xq6), (4, .int xq4), (3, .int xq2), (0, .ref (G.2.1 + 46)), (1, .ref (G.2.1 + 3)), (2, .int a2)]) hx hb (dk DX2_tellLine 28 rfl) hl (by decide) rfl (fun ls hl => ?_)
      refine lv_aload_n hx hb (dk DX2_tellLine 29 rfl) rfl (lv_at hl 3 rfl) ?_
      refine gX2_11 C hR ob46 rf46_7 (dk DX2_tellLine 30 rfl) ?_
      refine lv_iload_n hx hb (dk DX2_tellLine 31 rfl) rfl (lv_at hl 5 rfl) ?_
      obtain ⟨hq7, hF⟩ := ckB_ex hF
      refine r_iald C hR ob51 hq7 (dk DX2_tellLine 32 rfl) ?_
      refine lv_topi (fun xq8 exq8 => ?_)
      have hF := lt_at exq8 hF
      by_cases d0 : xq8 = (0 : Int32)
      · have hF := if_t d0 hF
        refine lv_tableIn (tgt := 96) hx hb (dk DX2_tellLine 33 rfl) (by rw [d0]; decide) (by rw [d0]; decide) (by rw [d0]; rfl) (by decide) ?_
        refine lv_aload_n hx hb (dk DX2_tellLine 34 rfl) rfl (lv_at hl 4 rfl) ?_
        refine lv_iload_n hx hb (dk DX2_tellLine 35 rfl) rfl (lv_at hl 2 rfl) ?_
        refine pX2_99 (x := xq2) C hR ob3 (dk DX2_tellLine 36 rfl) (fun H locs hR => ?_)
        obtain ⟨mq9, emq9, hF⟩ := lt_ex hF
        have hR := Rp_at emq9 hR
        refine lv_goto (tgt := 203) hx hb (dk DX2_tellLine 37 rfl) (by decide) ?_
        cases hF
        exact r_vret C hrt hR (dk DX2_tellLine 91 rfl)
      · have hF := if_f d0 hF
        by_cases d1 : xq8 = (1 : Int32)
        · have hF := if_t d1 hF
          refine lv_tableIn (tgt := 104) hx hb (dk DX2_tellLine 33 rfl) (by rw [d1]; decide) (by rw [d1]; decide) (by rw [d1]; rfl) (by decide) ?_
          refine lv_aload_n hx hb (dk DX2_tellLine 38 rfl) rfl (lv_at hl 4 rfl) ?_
          refine lv_iload_n hx hb (dk DX2_tellLine 39 rfl) rfl (lv_at hl 2 rfl) ?_
          refine lv_iload hx hb (dk DX2_tellLine 40 rfl) (lv_at hl 1 rfl) ?_
          refine lv_iload hx hb (dk DX2_tellLine 41 rfl) (lv_at hl 0 rfl) ?_
          obtain ⟨uq12, mq10, hzq11, hF⟩ := bnd_ex hF
          refine r_callVv (As := [.int xq2, .int xq4, .int xq6]) (rest := []) C hR (C_Gr_setSide l hl0 G xq2 xq4 xq6 m0 _ _ hzq11) (by decide) (by decide) ob3 rfl wX2_103 rfl rfl (Nat.le_of_ble_eq_true rfl) hl.1 ⟨Nat.zero_le _, Nat.zero_le _⟩ (dk DX2_tellLine 42 rfl) (fun H locs hR => ?_)
          refine lv_goto (tgt := 203) hx hb (dk DX2_tellLine 43 rfl) (by decide) ?_
          cases hF
          exact r_vret C hrt hR (dk DX2_tellLine 91 rfl)
        · have hF := if_f d1 hF
          by_cases d2 : xq8 = (2 : Int32)
          · have hF := if_t d2 hF
            refine lv_tableIn (tgt := 116) hx hb (dk DX2_tellLine 33 rfl) (by rw [d2]; decide) (by rw [d2]; decide) (by rw [d2]; rfl) (by decide) ?_
            refine lv_aload_n hx hb (dk DX2_tellLine 44 rfl) rfl (lv_at hl 4 rfl) ?_
            refine lv_iload_n hx hb (dk DX2_tellLine 45 rfl) rfl (lv_at hl 2 rfl) ?_
            refine lv_iload hx hb (dk DX2_tellLine 46 rfl) (lv_at hl 1 rfl) ?_
            refine lv_iload hx hb (dk DX2_tellLine 47 rfl) (lv_at hl 0 rfl) ?_
            refine lv_aload_n hx hb (dk DX2_tellLine 48 rfl) rfl (lv_at hl 3 rfl) ?_
            refine gX2_11 C hR ob46 rf46_7 (dk DX2_tellLine 49 rfl) ?_
            refine lv_iload_n hx hb (dk DX2_tellLine 50 rfl) rfl (lv_at hl 5 rfl) ?_
            refine lv_iconst (v := (4 : Int32)) hx hb (dk DX2_tellLine 51 rfl) (by decide) ?_
            refine lv_iadd hx hb (dk DX2_tellLine 52 rfl) ?_
            obtain ⟨hq13, hF⟩ := ckB_ex hF
            refine r_iald C hR ob51 hq13 (dk DX2_tellLine 53 rfl) ?_
            refine lv_topi (fun xq14 exq14 => ?_)
            have hF := lt_at exq14 hF
            obtain ⟨uq17, mq15, hzq16, hF⟩ := bnd_ex hF
            refine r_callVv (As := [.int xq2, .int xq4, .int xq6, .int xq14]) (rest := []) C hR (C_Gr_setSlot l hl0 G xq2 xq4 xq6 xq14 m0 _ _ hzq16) (by decide) (by decide) ob3 rfl wX2_107 rfl rfl (Nat.le_of_ble_eq_true rfl) hl.1 ⟨Nat.zero_le _, Nat.zero_le _⟩ (dk DX2_tellLine 54 rfl) (fun H locs hR => ?_)
            refine lv_goto (tgt := 203) hx hb (dk DX2_tellLine 55 rfl) (by decide) ?_
            cases hF
            exact r_vret C hrt hR (dk DX2_tellLine 91 rfl)
          · have hF := if_f d2 hF
            by_cases d3 : xq8 = (3 : Int32)
            · have hF := if_t d3 hF
              refine lv_tableIn (tgt := 136) hx hb (dk DX2_tellLine 33 rfl) (by rw [d3]; decide) (by rw [d3]; decide) (by rw [d3]; rfl) (by decide) ?_
              refine lv_aload_n hx hb (dk DX2_tellLine 56 rfl) rfl (lv_at hl 4 rfl) ?_
              refine lv_dup hx hb (dk DX2_tellLine 57 rfl) rfl ?_
              refine gX2_111 C hR ob3 (dk DX2_tellLine 58 rfl) ?_
              refine lv_iload_n hx hb (dk DX2_tellLine 59 rfl) rfl (lv_at hl 2 rfl) ?_
              refine lv_ior hx hb (dk DX2_tellLine 60 rfl) ?_
              refine pX2_111 (x := (gI m0 3 1) ||| xq2) C hR ob3 (dk DX2_tellLine 61 rfl) (fun H locs hR => ?_)
              obtain ⟨mq18, emq18, hF⟩ := lt_ex hF
              have hR := Rp_at emq18 hR
              refine lv_goto (tgt := 203) hx hb (dk DX2_tellLine 62 rfl) (by decide) ?_
              cases hF
              exact r_vret C hrt hR (dk DX2_tellLine 91 rfl)
            · have hF := if_f d3 hF
              by_cases d4 : xq8 = (4 : Int32)
              · have hF := if_t d4 hF
                refine lv_tableIn (tgt := 149) hx hb (dk DX2_tellLine 33 rfl) (by rw [d4]; decide) (by rw [d4]; decide) (by rw [d4]; rfl) (by decide) ?_
                refine lv_aload_n hx hb (dk DX2_tellLine 63 rfl) rfl (lv_at hl 4 rfl) ?_
                refine lv_dup hx hb (dk DX2_tellLine 64 rfl) rfl ?_
                refine gX2_113 C hR ob3 (dk DX2_tellLine 65 rfl) ?_
                refine lv_iload_n hx hb (dk DX2_tellLine 66 rfl) rfl (lv_at hl 2 rfl) ?_
                refine lv_ior hx hb (dk DX2_tellLine 67 rfl) ?_
                refine pX2_113 (x := (gI m0 3 2) ||| xq2) C hR ob3 (dk DX2_tellLine 68 rfl) (fun H locs hR => ?_)
                obtain ⟨mq19, emq19, hF⟩ := lt_ex hF
                have hR := Rp_at emq19 hR
                refine lv_goto (tgt := 203) hx hb (dk DX2_tellLine 69 rfl) (by decide) ?_
                cases hF
                exact r_vret C hrt hR (dk DX2_tellLine 91 rfl)
              · have hF := if_f d4 hF
                by_cases d5 : xq8 = (5 : Int32)
                · have hF := if_t d5 hF
                  refine lv_tableIn (tgt := 162) hx hb (dk DX2_tellLine 33 rfl) (by rw [d5]; decide) (by rw [d5]; decide) (by rw [d5]; rfl) (by decide) ?_
                  refine lv_aload_n hx hb (dk DX2_tellLine 70 rfl) rfl (lv_at hl 4 rfl) ?_
                  refine lv_dup hx hb (dk DX2_tellLine 71 rfl) rfl ?_
                  refine gX2_115 C hR ob3 (dk DX2_tellLine 72 rfl) ?_
                  refine lv_iload_n hx hb (dk DX2_tellLine 73 rfl) rfl (lv_at hl 2 rfl) ?_
                  refine lv_ior hx hb (dk DX2_tellLine 74 rfl) ?_
                  refine pX2_115 (x := (gI m0 3 3) ||| xq2) C hR ob3 (dk DX2_tellLine 75 rfl) (fun H locs hR => ?_)
                  obtain ⟨mq20, emq20, hF⟩ := lt_ex hF
                  have hR := Rp_at emq20 hR
                  refine lv_goto (tgt := 203) hx hb (dk DX2_tellLine 76 rfl) (by decide) ?_
                  cases hF
                  exact r_vret C hrt hR (dk DX2_tellLine 91 rfl)
                · have hF := if_f d5 hF
                  by_cases d6 : xq8 = (6 : Int32)
                  · have hF := if_t d6 hF
                    refine lv_tableIn (tgt := 175) hx hb (dk DX2_tellLine 33 rfl) (by rw [d6]; decide) (by rw [d6]; decide) (by rw [d6]; rfl) (by decide) ?_
                    refine lv_aload_n hx hb (dk DX2_tellLine 77 rfl) rfl (lv_at hl 4 rfl) ?_
                    refine lv_iload_n hx hb (dk DX2_tellLine 78 rfl) rfl (lv_at hl 2 rfl) ?_
                    refine pX2_117 (x := xq2) C hR ob3 (dk DX2_tellLine 79 rfl) (fun H locs hR => ?_)
                    obtain ⟨mq21, emq21, hF⟩ := lt_ex hF
                    have hR := Rp_at emq21 hR
                    refine lv_goto (tgt := 203) hx hb (dk DX2_tellLine 80 rfl) (by decide) ?_
                    cases hF
                    exact r_vret C hrt hR (dk DX2_tellLine 91 rfl)
                  · have hF := if_f d6 hF
                    by_cases d7 : xq8 = (7 : Int32)
                    · have hF := if_t d7 hF
                      refine lv_tableIn (tgt := 183) hx hb (dk DX2_tellLine 33 rfl) (by rw [d7]; decide) (by rw [d7]; decide) (by rw [d7]; rfl) (by decide) ?_
                      refine lv_aload_n hx hb (dk DX2_tellLine 81 rfl) rfl (lv_at hl 4 rfl) ?_
                      refine lv_iload_n hx hb (dk DX2_tellLine 82 rfl) rfl (lv_at hl 2 rfl) ?_
                      refine pX2_119 (x := xq2) C hR ob3 (dk DX2_tellLine 83 rfl) (fun H locs hR => ?_)
                      obtain ⟨mq22, emq22, hF⟩ := lt_ex hF
                      have hR := Rp_at emq22 hR
                      refine lv_goto (tgt := 203) hx hb (dk DX2_tellLine 84 rfl) (by decide) ?_
                      cases hF
                      exact r_vret C hrt hR (dk DX2_tellLine 91 rfl)
                    · have hF := if_f d7 hF
                      have n0 := i32_ne d0 (z := 0) rfl
                      have n1 := i32_ne d1 (z := 1) rfl
                      have n2 := i32_ne d2 (z := 2) rfl
                      have n3 := i32_ne d3 (z := 3) rfl
                      have n4 := i32_ne d4 (z := 4) rfl
                      have n5 := i32_ne d5 (z := 5) rfl
                      have n6 := i32_ne d6 (z := 6) rfl
                      have n7 := i32_ne d7 (z := 7) rfl
                      refine lv_tableOut (tgt := 191) hx hb (dk DX2_tellLine 33 rfl) (by omega) (by decide) ?_
                      refine lv_aload_n hx hb (dk DX2_tellLine 85 rfl) rfl (lv_at hl 4 rfl) ?_
                      refine gX2_122 C hR ob3 rf3_12 (dk DX2_tellLine 86 rfl) ?_
                      refine lv_iload_n hx hb (dk DX2_tellLine 87 rfl) rfl (lv_at hl 2 rfl) ?_
                      refine lv_iload hx hb (dk DX2_tellLine 88 rfl) (lv_at hl 1 rfl) ?_
                      refine lv_iload hx hb (dk DX2_tellLine 89 rfl) (lv_at hl 0 rfl) ?_
                      obtain ⟨uq25, mq23, hzq24, hF⟩ := bnd_ex hF
                      refine r_callVv (As := [.int xq2, .int xq4, .int xq6]) (rest := []) C hR (C_Bk_add l hl0 G xq2 xq4 xq6 m0 _ _ hzq24) (by decide) (by decide) ob12 rfl wX2_125 rfl rfl (Nat.le_of_ble_eq_true rfl) hl.1 ⟨Nat.zero_le _, Nat.zero_le _⟩ (dk DX2_tellLine 90 rfl) (fun H locs hR => ?_)
                      cases hF
                      exact r_vret C hrt hR (dk DX2_tellLine 91 rfl)
    · have hF := if_f c9 hF
      cases hF
      exact r_vret C hrt hR (dk DX2_tellLine 7 rfl)
set_option maxHeartbeats 4000000 in
set_option maxRecDepth 100000 in
theorem C_GT_tell (l : Launch) (hl0 : l.stackTraces = false) (G : GG) (m0 : Mem) (v : Unit) (m' : Mem) (hF : F_GT_tell m0 = some (v, m')) : Ct l G mr0 N0 yX2_tell cX2_tell 3 none 3 [.ref (G.2.1 + 46), .ref (G.2.1 + 3)] m0 none m' := by
  refine Ct_of hl0 (by decide) (Nat.le_of_ble_eq_true rfl) ?_
  intro p e s mid args below meth c ls C hrt hl hR
  have hx := C.1.1
  have hb := C.1.2.1
  have hl : lv_has ls 3 [(0, .ref (G.2.1 + 46)), (1, .ref (G.2.1 + 3))] := hl
  unfold F_GT_tell at hF
  refine lv_iconst (v := (0 : Int32)) hx hb (dk DX2_tell 0 rfl) (by decide) ?_
  refine lv_istore_n (lv' := [(2, .int (0 : Int32)), (0, .ref (G.2.1 + 46)), (1, .ref (G.2.1 + 3))]) hx hb (dk DX2_tell 1 rfl) rfl hl (by decide) rfl (fun ls hl => ?_)
  have L2 : ∀ (nf : Nat) (xq2 : Int32) (mq1 : Mem) (H : Heap) (locs : List Loc) (ls : Array Slot), lv_has ls 3 [(0, .ref (G.2.1 + 46)), (1, .ref (G.2.1 + 3)), (2, .int xq2)] → Rp G mr0 N0 mq1 s H locs → F_GT_tell_L2 nf xq2 mq1 = some (v, m') → W p l e (rmD 3) s mid args below meth c H locs 0 0 (MQ below (QR G mr0 N0 none m') args s 0 0 (fun q => G.2.1 ≤ q)) (F0 mid 2 ls []) := by
    intro nf
    induction nf with
    | zero =>
      intro xq2 mq1 H locs ls hl hR hF
      rw [F_GT_tell_L2] at hF
      cases hF
    | succ nf ihq4 =>
      intro xq2 mq1 H locs ls hl hR hF
      rw [F_GT_tell_L2] at hF
      refine lv_iload_n hx hb (dk DX2_tell 2 rfl) rfl (lv_at hl 2 rfl) ?_
      refine lv_aload_n hx hb (dk DX2_tell 3 rfl) rfl (lv_at hl 0 rfl) ?_
      refine gX2_15 C hR ob46 (dk DX2_tell 4 rfl) ?_
      refine lv_icmp_ge (tgt := 30) hx hb (dk DX2_tell 5 rfl) (by decide) (fun c7 => ?_) (fun c7 => ?_)
      · have hF := if_t c7 hF
        cases hF
        exact r_vret C hrt hR (dk DX2_tell 17 rfl)
      · have hF := if_f c7 hF
        refine lv_iload_n hx hb (dk DX2_tell 6 rfl) rfl (lv_at hl 2 rfl) ?_
        refine lv_bipush (v := (14 : Int32)) hx hb (dk DX2_tell 7 rfl) (by decide) ?_
        refine lv_icmp_ge (tgt := 30) hx hb (dk DX2_tell 8 rfl) (by decide) (fun c13 => ?_) (fun c13 => ?_)
        · have hF := if_t c13 hF
          cases hF
          exact r_vret C hrt hR (dk DX2_tell 17 rfl)
        · have hF := if_f c13 hF
          refine lv_aload_n hx hb (dk DX2_tell 9 rfl) rfl (lv_at hl 0 rfl) ?_
          refine lv_aload_n hx hb (dk DX2_tell 10 rfl) rfl (lv_at hl 1 rfl) ?_
          refine lv_iload_n hx hb (dk DX2_tell 11 rfl) rfl (lv_at hl 2 rfl) ?_
          refine lv_iconst (v := (5 : Int32)) hx hb (dk DX2_tell 12 rfl) (by decide) ?_
          refine lv_imul hx hb (dk DX2_tell 13 rfl) ?_
          obtain ⟨uq7, mq5, hzq6, hF⟩ := bnd_ex hF
          refine r_callVv (As := [.ref (G.2.1 + 3), .int (xq2 * (5 : Int32))]) (rest := []) C hR (C_GT_tellLine l hl0 G (xq2 * (5 : Int32)) mq1 _ _ hzq6) (by decide) (by decide) ob46 rfl wX2_95 rfl rfl (Nat.le_of_ble_eq_true rfl) hl.1 ⟨Nat.zero_le _, Nat.zero_le _⟩ (dk DX2_tell 14 rfl) (fun H locs hR => ?_)
          obtain ⟨xq8, exq8, hF⟩ := lt_ex hF
          refine lv_iinc (v := xq8) (lv' := [(2, .int xq8), (0, .ref (G.2.1 + 46)), (1, .ref (G.2.1 + 3))]) hx hb (dk DX2_tell 15 rfl) hl (k := 2) rfl (by rw [exq8]; rfl) (by decide) rfl (fun ls hl => ?_)
          refine lv_goto (tgt := 2) hx hb (dk DX2_tell 16 rfl) (by decide) ?_
          exact ihq4 xq8 mq5 _ _ ls (lv_sub hl [1, 2, 0] rfl) hR hF
  exact L2 1000000 (0 : Int32) m0 _ _ ls (lv_sub hl [1, 2, 0] rfl) hR hF
set_option maxHeartbeats 4000000 in
set_option maxRecDepth 100000 in
theorem C_T_ground (l : Launch) (hl0 : l.stackTraces = false) (G : GG) (m0 : Mem) (v : Nat ⊕ Int32) (m' : Mem) (hF : F_T_ground m0 = some (v, m')) : CtX l G mr0 N0 yX10_ground cX10_ground 1 (some .int) 15 [.ref (G.2.1 + 0)] m0 (ouI v) m' := by
  refine CtX_of hl0 (by decide) (Nat.le_of_ble_eq_true rfl) ?_
  intro p e s mid args below meth c ls C hrt hex hl hR
  have hx := C.1.1
  have hb := C.1.2.1
  have hl : lv_has ls 1 [(0, .ref (G.2.1 + 0))] := hl
  unfold F_T_ground at hF
  refine lv_aload_n hx hb (dk DX10_ground 0 rfl) rfl (lv_at hl 0 rfl) ?_
  refine lv_aload_n hx hb (dk DX10_ground 1 rfl) rfl (lv_at hl 0 rfl) ?_
  refine gX10_54 C hR ob0 rf0_8 (dk DX10_ground 2 rfl) ?_
  refine lv_aload_n hx hb (dk DX10_ground 3 rfl) rfl (lv_at hl 0 rfl) ?_
  refine gX10_9 C hR ob0 rf0_0 (dk DX10_ground 4 rfl) ?_
  refine lv_aload_n hx hb (dk DX10_ground 5 rfl) rfl (lv_at hl 0 rfl) ?_
  obtain ⟨xq3, mq1, hzq2, hF⟩ := bnd_ex hF
  refine r_callVi (As := []) (rest := [.ref (G.2.1 + 1), .ref (G.2.1 + 46), .ref (G.2.1 + 0)]) C hR (C_T_useTape l hl0 G m0 _ _ hzq2) (by decide) (by decide) ob0 rfl wX10_89 rfl rfl (Nat.le_of_ble_eq_true rfl) hl.1 ⟨Nat.zero_le _, Nat.zero_le _⟩ (dk DX10_ground 6 rfl) (fun H locs hR => ?_)
  refine lv_aload_n hx hb (dk DX10_ground 7 rfl) rfl (lv_at hl 0 rfl) ?_
  refine gX10_37 C hR ob0 rf0_5 (dk DX10_ground 8 rfl) ?_
  refine gX10_93 C hR ob16 (dk DX10_ground 9 rfl) ?_
  refine lv_iconst (v := (-1 : Int32)) hx hb (dk DX10_ground 10 rfl) (by decide) ?_
  obtain ⟨k29_5, ek29_5, hF⟩ := lt_ex hF
  have J29 : ∀ (zq5 : Bool) (mq4 : Mem) (H : Heap) (locs : List Loc) (ls : Array Slot), lv_has ls 1 [(0, .ref (G.2.1 + 0))] → Rp G mr0 N0 mq4 s H locs → k29_5 zq5 mq4 = some (v, m') → W p l e (rmX 15 (ouI v)) s mid args below meth c H locs 0 0 (ZX below G mr0 N0 (ouI v) m' args s) (F0 mid 29 ls [.int (b2i zq5), .int xq3, .ref (G.2.1 + 1), .ref (G.2.1 + 46), .ref (G.2.1 + 0)]) := by
    intro zq5 mq4 H locs ls hl hR hF
    rw [ek29_5] at hF
    refine lv_aload_n hx hb (dk DX10_ground 15 rfl) rfl (lv_at hl 0 rfl) ?_
    refine gX10_31 C hR ob0 rf0_4 (dk DX10_ground 16 rfl) ?_
    refine gX10_96 C hR ob3 rf3_12 (dk DX10_ground 17 rfl) ?_
    refine gX10_100 C hR ob12 (dk DX10_ground 18 rfl) ?_
    obtain ⟨xq8, mq6, hzq7, hF⟩ := bnd_ex hF
    refine r_callVi (As := [.ref (G.2.1 + 1), .int xq3, .int (b2i zq5), .int (gI mq4 12 0)]) (rest := [.ref (G.2.1 + 0)]) C hR (C_GT_readGround l hl0 G xq3 zq5 (gI mq4 12 0) mq4 _ _ hzq7) (by decide) (by decide) ob46 rfl wX10_105 rfl rfl (Nat.le_of_ble_eq_true rfl) hl.1 ⟨Nat.zero_le _, Nat.zero_le _⟩ (dk DX10_ground 19 rfl) (fun H locs hR => ?_)
    refine pX10_17 (x := xq8) C hR ob0 (dk DX10_ground 20 rfl) (fun H locs hR => ?_)
    obtain ⟨mq9, emq9, hF⟩ := lt_ex hF
    have hR := Rp_at emq9 hR
    refine lv_aload_n hx hb (dk DX10_ground 21 rfl) rfl (lv_at hl 0 rfl) ?_
    refine gX10_17 C hR ob0 (dk DX10_ground 22 rfl) ?_
    refine lv_iconst (v := (-1 : Int32)) hx hb (dk DX10_ground 23 rfl) (by decide) ?_
    refine lv_icmp_eq (tgt := 63) hx hb (dk DX10_ground 24 rfl) (by decide) (fun c50 => ?_) (fun c50 => ?_)
    · have hF := if_t c50 hF
      refine lv_aload_n hx hb (dk DX10_ground 30 rfl) rfl (lv_at hl 0 rfl) ?_
      refine gX10_31 C hR ob0 rf0_4 (dk DX10_ground 31 rfl) ?_
      refine gX10_116 C hR ob3 (dk DX10_ground 32 rfl) ?_
      refine lv_bipush (v := (12 : Int32)) hx hb (dk DX10_ground 33 rfl) (by decide) ?_
      refine lv_icmp_lt (tgt := 85) hx hb (dk DX10_ground 34 rfl) (by decide) (fun c72 => ?_) (fun c72 => ?_)
      · have hF := if_t c72 hF
        refine lv_aload_n hx hb (dk DX10_ground 40 rfl) rfl (lv_at hl 0 rfl) ?_
        refine gX10_54 C hR ob0 rf0_8 (dk DX10_ground 41 rfl) ?_
        refine lv_aload_n hx hb (dk DX10_ground 42 rfl) rfl (lv_at hl 0 rfl) ?_
        refine gX10_31 C hR ob0 rf0_4 (dk DX10_ground 43 rfl) ?_
        obtain ⟨uq12, mq10, hzq11, hF⟩ := bnd_ex hF
        refine r_callVv (As := [.ref (G.2.1 + 3)]) (rest := []) C hR (C_GT_tell l hl0 G mq9 _ _ hzq11) (by decide) (by decide) ob46 rfl wX10_124 rfl rfl (Nat.le_of_ble_eq_true rfl) hl.1 ⟨Nat.zero_le _, Nat.zero_le _⟩ (dk DX10_ground 44 rfl) (fun H locs hR => ?_)
        refine lv_aload_n hx hb (dk DX10_ground 45 rfl) rfl (lv_at hl 0 rfl) ?_
        refine gX10_31 C hR ob0 rf0_4 (dk DX10_ground 46 rfl) ?_
        refine lv_dup hx hb (dk DX10_ground 47 rfl) rfl ?_
        refine gX10_116 C hR ob3 (dk DX10_ground 48 rfl) ?_
        refine lv_iconst (v := (1 : Int32)) hx hb (dk DX10_ground 49 rfl) (by decide) ?_
        refine lv_iadd hx hb (dk DX10_ground 50 rfl) ?_
        refine pX10_116 (x := (gI mq10 3 6) + (1 : Int32)) C hR ob3 (dk DX10_ground 51 rfl) (fun H locs hR => ?_)
        obtain ⟨mq13, emq13, hF⟩ := lt_ex hF
        have hR := Rp_at emq13 hR
        refine lv_aload_n hx hb (dk DX10_ground 52 rfl) rfl (lv_at hl 0 rfl) ?_
        obtain ⟨uq16, mq14, hzq15, hF⟩ := bnd_ex hF
        refine r_callVv (As := []) (rest := []) C hR (C_T_startAfresh l hl0 G mq13 _ _ hzq15) (by decide) (by decide) ob0 rfl wX10_128 rfl rfl (Nat.le_of_ble_eq_true rfl) hl.1 ⟨Nat.zero_le _, Nat.zero_le _⟩ (dk DX10_ground 53 rfl) (fun H locs hR => ?_)
        refine lv_aload_n hx hb (dk DX10_ground 54 rfl) rfl (lv_at hl 0 rfl) ?_
        refine gX10_31 C hR ob0 rf0_4 (dk DX10_ground 55 rfl) ?_
        refine gX10_116 C hR ob3 (dk DX10_ground 56 rfl) ?_
        cases hF
        exact x_iret C hrt hR (dk DX10_ground 57 rfl)
      · have hF := if_f c72 hF
        cases hF
        exact r_throw (d := 15) (k := 3) C hex hR tX10_123 strm_X10_121 (by decide) (Nat.le_of_ble_eq_true rfl) hl.1 (dk DX10_ground 35 rfl) (dk DX10_ground 36 rfl) (dk DX10_ground 37 rfl) (dk DX10_ground 38 rfl) (dk DX10_ground 39 rfl)
    · have hF := if_f c50 hF
      cases hF
      exact r_throw (d := 15) (k := 1) C hex hR tX10_113 strm_X10_111 (by decide) (Nat.le_of_ble_eq_true rfl) hl.1 (dk DX10_ground 25 rfl) (dk DX10_ground 26 rfl) (dk DX10_ground 27 rfl) (dk DX10_ground 28 rfl) (dk DX10_ground 29 rfl)
  refine lv_icmp_ne (tgt := 28) hx hb (dk DX10_ground 11 rfl) (by decide) (fun c21 => ?_) (fun c21 => ?_)
  · have hF := if_f c21 hF
    refine lv_iconst (v := (0 : Int32)) hx hb (dk DX10_ground 14 rfl) (by decide) ?_
    exact J29 false mq1 _ _ ls (lv_sub hl [0] rfl) hR hF
  · have hF := if_t c21 hF
    refine lv_iconst (v := (1 : Int32)) hx hb (dk DX10_ground 12 rfl) (by decide) ?_
    refine lv_goto (tgt := 29) hx hb (dk DX10_ground 13 rfl) (by decide) ?_
    exact J29 true mq1 _ _ ls (lv_sub hl [0] rfl) hR hF
set_option maxHeartbeats 4000000 in
set_option maxRecDepth 100000 in
theorem C_T_habit (l : Launch) (hl0 : l.stackTraces = false) (G : GG) (a1 : Bool) (m0 : Mem) (v : Bool) (m' : Mem) (hF : F_T_habit a1 m0 = some (v, m')) : Ct l G mr0 N0 yX10_habit cX10_habit 4 (some .boolean) 4 [.ref (G.2.1 + 0), .int (b2i a1)] m0 (some (.int (b2i v))) m' := by
  refine Ct_of hl0 (by decide) (Nat.le_of_ble_eq_true rfl) ?_
  intro p e s mid args below meth c ls C hrt hl hR
  have hx := C.1.1
  have hb := C.1.2.1
  have hl : lv_has ls 4 [(0, .ref (G.2.1 + 0)), (1, .int (b2i a1))] := hl
  unfold F_T_habit at hF
  refine lv_aload_n hx hb (dk DX10_habit 0 rfl) rfl (lv_at hl 0 rfl) ?_
  refine gX10_31 C hR ob0 rf0_4 (dk DX10_habit 1 rfl) ?_
  refine gX10_96 C hR ob3 rf3_12 (dk DX10_habit 2 rfl) ?_
  refine lv_iconst (v := (0 : Int32)) hx hb (dk DX10_habit 3 rfl) (by decide) ?_
  obtain ⟨xq3, mq1, hzq2, hF⟩ := bnd_ex hF
  refine r_callVi (As := [.int (0 : Int32)]) (rest := []) C hR (C_Bk_tally l hl0 G (0 : Int32) m0 _ _ hzq2) (by decide) (by decide) ob12 rfl wX10_380 rfl rfl (Nat.le_of_ble_eq_true rfl) hl.1 ⟨Nat.zero_le _, Nat.zero_le _⟩ (dk DX10_habit 4 rfl) (fun H locs hR => ?_)
  refine lv_istore_n (lv' := [(2, .int xq3), (0, .ref (G.2.1 + 0)), (1, .int (b2i a1))]) hx hb (dk DX10_habit 5 rfl) rfl hl (by decide) rfl (fun ls hl => ?_)
  refine lv_iload_n hx hb (dk DX10_habit 6 rfl) rfl (lv_at hl 2 rfl) ?_
  refine z_ifeq (tgt := 53) hx hb (dk DX10_habit 7 rfl) (by decide) (fun c13 => ?_) (fun c13 => ?_)
  · have hF := if_f c13 hF
    refine lv_iload_n hx hb (dk DX10_habit 29 rfl) rfl (lv_at hl 0 rfl) ?_
    refine lv_if_le (tgt := 82) hx hb (dk DX10_habit 30 rfl) (by decide) (fun c54 => ?_) (fun c54 => ?_)
    · have hF := if_t c54 hF
      refine lv_iconst (v := (0 : Int32)) hx hb (dk DX10_habit 44 rfl) (by decide) ?_
      cases hF
      exact r_zret C hrt hR (dk DX10_habit 45 rfl)
    · have hF := if_f c54 hF
      refine lv_aload_n hx hb (dk DX10_habit 31 rfl) rfl (lv_at hl 1 rfl) ?_
      refine gX10_31 C hR ob0 rf0_4 (dk DX10_habit 32 rfl) ?_
      refine gX10_96 C hR ob3 rf3_12 (dk DX10_habit 33 rfl) ?_
      refine lv_iconst (v := (1 : Int32)) hx hb (dk DX10_habit 34 rfl) (by decide) ?_
      obtain ⟨xq6, mq4, hzq5, hF⟩ := bnd_ex hF
      refine r_callVi (As := [.int (1 : Int32)]) (rest := []) C hR (C_Bk_tally l hl0 G (1 : Int32) mq1 _ _ hzq5) (by decide) (by decide) ob12 rfl wX10_380 rfl rfl (Nat.le_of_ble_eq_true rfl) hl.1 ⟨Nat.zero_le _, Nat.zero_le _⟩ (dk DX10_habit 35 rfl) (fun H locs hR => ?_)
      refine lv_bipush (v := (10 : Int32)) hx hb (dk DX10_habit 36 rfl) (by decide) ?_
      refine lv_imul hx hb (dk DX10_habit 37 rfl) ?_
      refine lv_iload_n hx hb (dk DX10_habit 38 rfl) rfl (lv_at hl 0 rfl) ?_
      refine lv_bipush (v := (9 : Int32)) hx hb (dk DX10_habit 39 rfl) (by decide) ?_
      refine lv_imul hx hb (dk DX10_habit 40 rfl) ?_
      refine lv_icmp_lt (tgt := 82) hx hb (dk DX10_habit 41 rfl) (by decide) (fun c75 => ?_) (fun c75 => ?_)
      · have hF := if_t c75 hF
        refine lv_iconst (v := (0 : Int32)) hx hb (dk DX10_habit 44 rfl) (by decide) ?_
        cases hF
        exact r_zret C hrt hR (dk DX10_habit 45 rfl)
      · have hF := if_f c75 hF
        refine lv_iconst (v := (1 : Int32)) hx hb (dk DX10_habit 42 rfl) (by decide) ?_
        refine lv_goto (tgt := 83) hx hb (dk DX10_habit 43 rfl) (by decide) ?_
        cases hF
        exact r_zret C hrt hR (dk DX10_habit 45 rfl)
  · have hF := if_t c13 hF
    refine lv_aload_n hx hb (dk DX10_habit 8 rfl) rfl (lv_at hl 1 rfl) ?_
    refine gX10_31 C hR ob0 rf0_4 (dk DX10_habit 9 rfl) ?_
    refine gX10_96 C hR ob3 rf3_12 (dk DX10_habit 10 rfl) ?_
    refine lv_iconst (v := (3 : Int32)) hx hb (dk DX10_habit 11 rfl) (by decide) ?_
    obtain ⟨xq9, mq7, hzq8, hF⟩ := bnd_ex hF
    refine r_callVi (As := [.int (3 : Int32)]) (rest := []) C hR (C_Bk_tally l hl0 G (3 : Int32) mq1 _ _ hzq8) (by decide) (by decide) ob12 rfl wX10_380 rfl rfl (Nat.le_of_ble_eq_true rfl) hl.1 ⟨Nat.zero_le _, Nat.zero_le _⟩ (dk DX10_habit 12 rfl) (fun H locs hR => ?_)
    refine lv_istore_n (lv' := [(3, .int xq9), (2, .int xq3), (0, .ref (G.2.1 + 0)), (1, .int (b2i a1))]) hx hb (dk DX10_habit 13 rfl) rfl hl (by decide) rfl (fun ls hl => ?_)
    refine lv_iload_n hx hb (dk DX10_habit 14 rfl) rfl (lv_at hl 0 rfl) ?_
    refine lv_iload_n hx hb (dk DX10_habit 15 rfl) rfl (lv_at hl 1 rfl) ?_
    refine lv_aload_n hx hb (dk DX10_habit 16 rfl) rfl (lv_at hl 2 rfl) ?_
    refine gX10_31 C hR ob0 rf0_4 (dk DX10_habit 17 rfl) ?_
    refine gX10_96 C hR ob3 rf3_12 (dk DX10_habit 18 rfl) ?_
    refine lv_iconst (v := (5 : Int32)) hx hb (dk DX10_habit 19 rfl) (by decide) ?_
    obtain ⟨xq12, mq10, hzq11, hF⟩ := bnd_ex hF
    refine r_callVi (As := [.int (5 : Int32)]) (rest := [.int xq3, .int xq9]) C hR (C_Bk_tally l hl0 G (5 : Int32) mq7 _ _ hzq11) (by decide) (by decide) ob12 rfl wX10_380 rfl rfl (Nat.le_of_ble_eq_true rfl) hl.1 ⟨Nat.zero_le _, Nat.zero_le _⟩ (dk DX10_habit 20 rfl) (fun H locs hR => ?_)
    refine lv_isub hx hb (dk DX10_habit 21 rfl) ?_
    refine lv_iload_n hx hb (dk DX10_habit 22 rfl) rfl (lv_at hl 0 rfl) ?_
    refine lv_isub hx hb (dk DX10_habit 23 rfl) ?_
    refine lv_icmp_ne (tgt := 51) hx hb (dk DX10_habit 24 rfl) (by decide) (fun c44 => ?_) (fun c44 => ?_)
    · have hF := if_f c44 hF
      refine lv_iconst (v := (0 : Int32)) hx hb (dk DX10_habit 27 rfl) (by decide) ?_
      cases hF
      exact r_zret C hrt hR (dk DX10_habit 28 rfl)
    · have hF := if_t c44 hF
      refine lv_iconst (v := (1 : Int32)) hx hb (dk DX10_habit 25 rfl) (by decide) ?_
      refine lv_goto (tgt := 52) hx hb (dk DX10_habit 26 rfl) (by decide) ?_
      cases hF
      exact r_zret C hrt hR (dk DX10_habit 28 rfl)
set_option maxHeartbeats 4000000 in
set_option maxRecDepth 100000 in
theorem C_T_hardest (l : Launch) (hl0 : l.stackTraces = false) (G : GG) (a1 : Int32) (a2 : Int32) (m0 : Mem) (v : Nat ⊕ Int32) (m' : Mem) (hF : F_T_hardest a1 a2 m0 = some (v, m')) : CtX l G mr0 N0 yX10_hardest cX10_hardest 7 (some .int) 9 [.ref (G.2.1 + 0), .int a1, .int a2] m0 (ouI v) m' := by
  refine CtX_of hl0 (by decide) (Nat.le_of_ble_eq_true rfl) ?_
  intro p e s mid args below meth c ls C hrt hex hl hR
  have hx := C.1.1
  have hb := C.1.2.1
  have hl : lv_has ls 7 [(0, .ref (G.2.1 + 0)), (1, .int a1), (2, .int a2)] := hl
  unfold F_T_hardest at hF
  refine lv_aload_n hx hb (dk DX10_hardest 0 rfl) rfl (lv_at hl 0 rfl) ?_
  refine lv_iload_n hx hb (dk DX10_hardest 1 rfl) rfl (lv_at hl 1 rfl) ?_
  refine lv_iconst (v := (4 : Int32)) hx hb (dk DX10_hardest 2 rfl) (by decide) ?_
  rcases bndX_ex hF with ⟨ke, mq1, hzq2, hF⟩ | ⟨uq3, mq1, hzq2, hF⟩
  · have hM := C_T_mustBeBelow l hl0 G a1 (4 : Int32) m0 (Sum.inl ke) mq1 hzq2
    rw [show ouV (Sum.inl ke) = (Sum.inl ke : Ou) from rfl] at hM
    cases hF
    exact x_passV (d := 9) (k := ke) (As := [.int a1, .int (4 : Int32)]) (rest := []) C hex hR hM (by decide) (by decide) ob0 rfl wX10_149 rfl rfl (Nat.le_of_ble_eq_true rfl) hl.1 (dk DX10_hardest 3 rfl)
  · have hM := C_T_mustBeBelow l hl0 G a1 (4 : Int32) m0 (Sum.inr uq3) mq1 hzq2
    rw [show ouV (Sum.inr uq3) = (Sum.inr none : Ou) from rfl] at hM
    refine x_callVv (As := [.int a1, .int (4 : Int32)]) (rest := []) C hR hM (by decide) (by decide) ob0 rfl wX10_149 rfl rfl (Nat.le_of_ble_eq_true rfl) hl.1 ⟨Nat.zero_le _, Nat.zero_le _⟩ (dk DX10_hardest 3 rfl) (fun H locs hR => ?_)
    refine lv_aload_n hx hb (dk DX10_hardest 4 rfl) rfl (lv_at hl 0 rfl) ?_
    refine lv_iload_n hx hb (dk DX10_hardest 5 rfl) rfl (lv_at hl 2 rfl) ?_
    refine lv_iconst (v := (2 : Int32)) hx hb (dk DX10_hardest 6 rfl) (by decide) ?_
    rcases bndX_ex hF with ⟨ke, mq4, hzq5, hF⟩ | ⟨uq6, mq4, hzq5, hF⟩
    · have hM := C_T_mustBeBelow l hl0 G a2 (2 : Int32) mq1 (Sum.inl ke) mq4 hzq5
      rw [show ouV (Sum.inl ke) = (Sum.inl ke : Ou) from rfl] at hM
      cases hF
      exact x_passV (d := 9) (k := ke) (As := [.int a2, .int (2 : Int32)]) (rest := []) C hex hR hM (by decide) (by decide) ob0 rfl wX10_149 rfl rfl (Nat.le_of_ble_eq_true rfl) hl.1 (dk DX10_hardest 7 rfl)
    · have hM := C_T_mustBeBelow l hl0 G a2 (2 : Int32) mq1 (Sum.inr uq6) mq4 hzq5
      rw [show ouV (Sum.inr uq6) = (Sum.inr none : Ou) from rfl] at hM
      refine x_callVv (As := [.int a2, .int (2 : Int32)]) (rest := []) C hR hM (by decide) (by decide) ob0 rfl wX10_149 rfl rfl (Nat.le_of_ble_eq_true rfl) hl.1 ⟨Nat.zero_le _, Nat.zero_le _⟩ (dk DX10_hardest 7 rfl) (fun H locs hR => ?_)
      refine lv_iconst (v := (0 : Int32)) hx hb (dk DX10_hardest 8 rfl) (by decide) ?_
      refine lv_istore_n (lv' := [(3, .int (0 : Int32)), (0, .ref (G.2.1 + 0)), (1, .int a1), (2, .int a2)]) hx hb (dk DX10_hardest 9 rfl) rfl hl (by decide) rfl (fun ls hl => ?_)
      refine lv_iconst (v := (-1 : Int32)) hx hb (dk DX10_hardest 10 rfl) (by decide) ?_
      refine lv_istore (lv' := [(4, .int (-1 : Int32)), (3, .int (0 : Int32)), (0, .ref (G.2.1 + 0)), (1, .int a1), (2, .int a2)]) hx hb (dk DX10_hardest 11 rfl) hl (by decide) rfl (fun ls hl => ?_)
      refine lv_iconst (v := (0 : Int32)) hx hb (dk DX10_hardest 12 rfl) (by decide) ?_
      refine lv_istore (lv' := [(5, .int (0 : Int32)), (4, .int (-1 : Int32)), (3, .int (0 : Int32)), (0, .ref (G.2.1 + 0)), (1, .int a1), (2, .int a2)]) hx hb (dk DX10_hardest 13 rfl) hl (by decide) rfl (fun ls hl => ?_)
      have L20 : ∀ (nf : Nat) (xq8 : Int32) (xq9 : Int32) (xq10 : Int32) (mq7 : Mem) (H : Heap) (locs : List Loc) (ls : Array Slot), lv_has ls 7 [(0, .ref (G.2.1 + 0)), (1, .int a1), (2, .int a2), (3, .int xq8), (4, .int xq9), (5, .int xq10)] → Rp G mr0 N0 mq7 s H locs → F_T_hardest_L20 a1 a2 nf xq8 xq9 xq10 mq7 = some (v, m') → W p l e (rmX 9 (ouI v)) s mid args below meth c H locs 0 0 (ZX below G mr0 N0 (ouI v) m' args s) (F0 mid 20 ls []) := by
        intro nf
        induction nf with
        | zero =>
          intro xq8 xq9 xq10 mq7 H locs ls hl hR hF
          rw [F_T_hardest_L20] at hF
          cases hF
        | succ nf ihq12 =>
          intro xq8 xq9 xq10 mq7 H locs ls hl hR hF
          rw [F_T_hardest_L20] at hF
          refine lv_iload hx hb (dk DX10_hardest 14 rfl) (lv_at hl 5 rfl) ?_
          refine lv_aload_n hx hb (dk DX10_hardest 15 rfl) rfl (lv_at hl 0 rfl) ?_
          refine gX10_31 C hR ob0 rf0_4 (dk DX10_hardest 16 rfl) ?_
          refine gX10_167 C hR ob3 (dk DX10_hardest 17 rfl) ?_
          refine lv_icmp_ge (tgt := 65) hx hb (dk DX10_hardest 18 rfl) (by decide) (fun c29 => ?_) (fun c29 => ?_)
          · have hF := if_t c29 hF
            refine lv_iload_n hx hb (dk DX10_hardest 35 rfl) rfl (lv_at hl 3 rfl) ?_
            cases hF
            exact x_iret C hrt hR (dk DX10_hardest 36 rfl)
          · have hF := if_f c29 hF
            refine lv_aload_n hx hb (dk DX10_hardest 19 rfl) rfl (lv_at hl 0 rfl) ?_
            refine gX10_31 C hR ob0 rf0_4 (dk DX10_hardest 20 rfl) ?_
            refine lv_iload hx hb (dk DX10_hardest 21 rfl) (lv_at hl 5 rfl) ?_
            refine lv_iload_n hx hb (dk DX10_hardest 22 rfl) rfl (lv_at hl 1 rfl) ?_
            refine lv_iload_n hx hb (dk DX10_hardest 23 rfl) rfl (lv_at hl 2 rfl) ?_
            obtain ⟨xq15, mq13, hzq14, hF⟩ := bnd_ex hF
            refine r_callVi (As := [.int xq10, .int a1, .int a2]) (rest := []) C hR (C_Gr_levelOf l hl0 G xq10 a1 a2 mq7 _ _ hzq14) (by decide) (by decide) ob3 rfl wX10_187 rfl rfl (Nat.le_of_ble_eq_true rfl) hl.1 ⟨Nat.zero_le _, Nat.zero_le _⟩ (dk DX10_hardest 24 rfl) (fun H locs hR => ?_)
            refine lv_istore (lv' := [(6, .int xq15), (0, .ref (G.2.1 + 0)), (1, .int a1), (2, .int a2), (3, .int xq8), (4, .int xq9), (5, .int xq10)]) hx hb (dk DX10_hardest 25 rfl) hl (by decide) rfl (fun ls hl => ?_)
            refine lv_iload hx hb (dk DX10_hardest 26 rfl) (lv_at hl 0 rfl) ?_
            refine lv_iload hx hb (dk DX10_hardest 27 rfl) (lv_at hl 5 rfl) ?_
            obtain ⟨k59_18, ek59_18, hF⟩ := lt_ex hF
            have J59 : ∀ (xq17 : Int32) (xq18 : Int32) (mq16 : Mem) (H : Heap) (locs : List Loc) (ls : Array Slot), lv_has ls 7 [(0, .ref (G.2.1 + 0)), (1, .int a1), (2, .int a2), (3, .int xq17), (4, .int xq18), (5, .int xq10)] → Rp G mr0 N0 mq16 s H locs → k59_18 xq17 xq18 mq16 = some (v, m') → W p l e (rmX 9 (ouI v)) s mid args below meth c H locs 0 0 (ZX below G mr0 N0 (ouI v) m' args s) (F0 mid 59 ls []) := by
              intro xq17 xq18 mq16 H locs ls hl hR hF
              rw [ek59_18] at hF
              obtain ⟨xq19, exq19, hF⟩ := lt_ex hF
              refine lv_iinc (v := xq19) (lv' := [(5, .int xq19), (0, .ref (G.2.1 + 0)), (1, .int a1), (2, .int a2), (3, .int xq17), (4, .int xq18)]) hx hb (dk DX10_hardest 33 rfl) hl (k := 5) rfl (by rw [exq19]; rfl) (by decide) rfl (fun ls hl => ?_)
              refine lv_goto (tgt := 20) hx hb (dk DX10_hardest 34 rfl) (by decide) ?_
              exact ihq12 xq17 xq18 xq19 mq16 _ _ ls (lv_sub hl [1, 2, 3, 4, 5, 0] rfl) hR hF
            refine lv_icmp_le (tgt := 59) hx hb (dk DX10_hardest 28 rfl) (by decide) (fun c49 => ?_) (fun c49 => ?_)
            · have hF := if_t c49 hF
              exact J59 xq8 xq9 mq13 _ _ ls (lv_sub hl [1, 2, 3, 4, 5, 6] rfl) hR hF
            · have hF := if_f c49 hF
              refine lv_iload hx hb (dk DX10_hardest 29 rfl) (lv_at hl 0 rfl) ?_
              refine lv_istore (lv' := [(4, .int xq15), (6, .int xq15), (0, .ref (G.2.1 + 0)), (1, .int a1), (2, .int a2), (3, .int xq8), (5, .int xq10)]) hx hb (dk DX10_hardest 30 rfl) hl (by decide) rfl (fun ls hl => ?_)
              refine lv_iload hx hb (dk DX10_hardest 31 rfl) (lv_at hl 6 rfl) ?_
              refine lv_istore_n (lv' := [(3, .int xq10), (4, .int xq15), (6, .int xq15), (0, .ref (G.2.1 + 0)), (1, .int a1), (2, .int a2), (5, .int xq10)]) hx hb (dk DX10_hardest 32 rfl) rfl hl (by decide) rfl (fun ls hl => ?_)
              exact J59 xq10 xq15 mq13 _ _ ls (lv_sub hl [3, 4, 5, 0, 1, 6] rfl) hR hF
      exact L20 1000000 (0 : Int32) (-1 : Int32) (0 : Int32) mq4 _ _ ls (lv_sub hl [3, 4, 5, 2, 1, 0] rfl) hR hF
set_option maxHeartbeats 4000000 in
set_option maxRecDepth 100000 in
theorem C_T_here (l : Launch) (hl0 : l.stackTraces = false) (G : GG) (a1 : Int32) (m0 : Mem) (v : Nat ⊕ Int64) (m' : Mem) (hF : F_T_here a1 m0 = some (v, m')) : CtX l G mr0 N0 yX10_here cX10_here 2 (some .long) 288 [.ref (G.2.1 + 0), .int a1] m0 (ouL v) m' := by
  refine CtX_of hl0 (by decide) (Nat.le_of_ble_eq_true rfl) ?_
  intro p e s mid args below meth c ls C hrt hex hl hR
  have hx := C.1.1
  have hb := C.1.2.1
  have hl : lv_has ls 2 [(0, .ref (G.2.1 + 0)), (1, .int a1)] := hl
  unfold F_T_here at hF
  refine lv_aload_n hx hb (dk DX10_here 0 rfl) rfl (lv_at hl 0 rfl) ?_
  refine lv_iload_n hx hb (dk DX10_here 1 rfl) rfl (lv_at hl 1 rfl) ?_
  refine lv_iconst (v := (0 : Int32)) hx hb (dk DX10_here 2 rfl) (by decide) ?_
  rcases bndX_ex hF with ⟨ke, mq1, hzq2, hF⟩ | ⟨yq3, mq1, hzq2, hF⟩
  · have hM := C_T_oddsFromHere l hl0 G a1 false m0 (Sum.inl ke) mq1 hzq2
    rw [show ouL (Sum.inl ke) = (Sum.inl ke : Ou) from rfl] at hM
    cases hF
    exact x_passV (d := 288) (k := ke) (As := [.int a1, .int (b2i false)]) (rest := []) C hex hR hM (by decide) (by decide) ob0 rfl wX10_298 rfl rfl (Nat.le_of_ble_eq_true rfl) hl.1 (dk DX10_here 3 rfl)
  · have hM := C_T_oddsFromHere l hl0 G a1 false m0 (Sum.inr yq3) mq1 hzq2
    rw [show ouL (Sum.inr yq3) = (Sum.inr (some (.long yq3)) : Ou) from rfl] at hM
    refine x_callVl (As := [.int a1, .int (b2i false)]) (rest := []) C hR hM (by decide) (by decide) ob0 rfl wX10_298 rfl rfl (Nat.le_of_ble_eq_true rfl) hl.1 ⟨Nat.zero_le _, Nat.zero_le _⟩ (dk DX10_here 3 rfl) (fun H locs hR => ?_)
    cases hF
    exact x_lret C hrt hR (dk DX10_here 4 rfl)
set_option maxHeartbeats 4000000 in
set_option maxRecDepth 100000 in
theorem C_T_mustBeChase (l : Launch) (hl0 : l.stackTraces = false) (G : GG) (m0 : Mem) (v : Nat ⊕ Unit) (m' : Mem) (hF : F_T_mustBeChase m0 = some (v, m')) : CtX l G mr0 N0 yX10_mustBeChase cX10_mustBeChase 1 none 8 [.ref (G.2.1 + 0)] m0 (ouV v) m' := by
  refine CtX_of hl0 (by decide) (Nat.le_of_ble_eq_true rfl) ?_
  intro p e s mid args below meth c ls C hrt hex hl hR
  have hx := C.1.1
  have hb := C.1.2.1
  have hl : lv_has ls 1 [(0, .ref (G.2.1 + 0))] := hl
  unfold F_T_mustBeChase at hF
  refine lv_aload_n hx hb (dk DX10_mustBeChase 0 rfl) rfl (lv_at hl 0 rfl) ?_
  refine gX10_37 C hR ob0 rf0_5 (dk DX10_mustBeChase 1 rfl) ?_
  obtain ⟨zq3, mq1, hzq2, hF⟩ := bnd_ex hF
  refine r_callVi (As := []) (rest := []) C hR (C_Ma_isOn l hl0 G m0 _ _ hzq2) (by decide) (by decide) ob16 rfl wX10_215 rfl rfl (Nat.le_of_ble_eq_true rfl) hl.1 ⟨Nat.zero_le _, Nat.zero_le _⟩ (dk DX10_mustBeChase 2 rfl) (fun H locs hR => ?_)
  obtain ⟨k21_4, ek21_4, hF⟩ := lt_ex hF
  have J21 : ∀ (mq4 : Mem) (H : Heap) (locs : List Loc) (ls : Array Slot), lv_has ls 1 [] → Rp G mr0 N0 mq4 s H locs → k21_4  mq4 = some (v, m') → W p l e (rmX 8 (ouV v)) s mid args below meth c H locs 0 0 (ZX below G mr0 N0 (ouV v) m' args s) (F0 mid 21 ls []) := by
    intro  mq4 H locs ls hl hR hF
    rw [ek21_4] at hF
    cases hF
    exact r_throwW (d := 8) (k := 0) C hex hR tX10_239 strm_X10_422 (by decide) (Nat.le_of_ble_eq_true rfl) hl.1 (dk DX10_mustBeChase 9 rfl) (dk DX10_mustBeChase 10 rfl) (dk DX10_mustBeChase 11 rfl) (dk DX10_mustBeChase 12 rfl) (dk DX10_mustBeChase 13 rfl)
  refine z_ifeq (tgt := 21) hx hb (dk DX10_mustBeChase 3 rfl) (by decide) (fun c7 => ?_) (fun c7 => ?_)
  · have hF := if_f c7 hF
    exact J21 mq1 _ _ ls (lv_sub hl [] rfl) hR hF
  · have hF := if_t c7 hF
    refine lv_aload_n hx hb (dk DX10_mustBeChase 4 rfl) rfl (lv_at hl 0 rfl) ?_
    refine gX10_37 C hR ob0 rf0_5 (dk DX10_mustBeChase 5 rfl) ?_
    refine gX10_207 C hR ob16 (dk DX10_mustBeChase 6 rfl) ?_
    refine lv_iconst (v := (3 : Int32)) hx hb (dk DX10_mustBeChase 7 rfl) (by decide) ?_
    refine lv_icmp_eq (tgt := 32) hx hb (dk DX10_mustBeChase 8 rfl) (by decide) (fun c18 => ?_) (fun c18 => ?_)
    · have hF := if_t c18 hF
      cases hF
      exact x_vret C hrt hR (dk DX10_mustBeChase 14 rfl)
    · have hF := if_f c18 hF
      exact J21 mq1 _ _ ls (lv_sub hl [] rfl) hR hF
set_option maxHeartbeats 4000000 in
set_option maxRecDepth 100000 in
theorem C_T_hold (l : Launch) (hl0 : l.stackTraces = false) (G : GG) (a1 : Int32) (m0 : Mem) (v : Nat ⊕ Int32) (m' : Mem) (hF : F_T_hold a1 m0 = some (v, m')) : CtX l G mr0 N0 yX10_hold cX10_hold 3 (some .int) 9 [.ref (G.2.1 + 0), .int a1] m0 (ouI v) m' := by
  refine CtX_of hl0 (by decide) (Nat.le_of_ble_eq_true rfl) ?_
  intro p e s mid args below meth c ls C hrt hex hl hR
  have hx := C.1.1
  have hb := C.1.2.1
  have hl : lv_has ls 3 [(0, .ref (G.2.1 + 0)), (1, .int a1)] := hl
  unfold F_T_hold at hF
  refine lv_aload_n hx hb (dk DX10_hold 0 rfl) rfl (lv_at hl 0 rfl) ?_
  refine lv_iload_n hx hb (dk DX10_hold 1 rfl) rfl (lv_at hl 1 rfl) ?_
  refine lv_iconst (v := (4 : Int32)) hx hb (dk DX10_hold 2 rfl) (by decide) ?_
  rcases bndX_ex hF with ⟨ke, mq1, hzq2, hF⟩ | ⟨uq3, mq1, hzq2, hF⟩
  · have hM := C_T_mustBeBelow l hl0 G a1 (4 : Int32) m0 (Sum.inl ke) mq1 hzq2
    rw [show ouV (Sum.inl ke) = (Sum.inl ke : Ou) from rfl] at hM
    cases hF
    exact x_passV (d := 9) (k := ke) (As := [.int a1, .int (4 : Int32)]) (rest := []) C hex hR hM (by decide) (by decide) ob0 rfl wX10_149 rfl rfl (Nat.le_of_ble_eq_true rfl) hl.1 (dk DX10_hold 3 rfl)
  · have hM := C_T_mustBeBelow l hl0 G a1 (4 : Int32) m0 (Sum.inr uq3) mq1 hzq2
    rw [show ouV (Sum.inr uq3) = (Sum.inr none : Ou) from rfl] at hM
    refine x_callVv (As := [.int a1, .int (4 : Int32)]) (rest := []) C hR hM (by decide) (by decide) ob0 rfl wX10_149 rfl rfl (Nat.le_of_ble_eq_true rfl) hl.1 ⟨Nat.zero_le _, Nat.zero_le _⟩ (dk DX10_hold 3 rfl) (fun H locs hR => ?_)
    refine lv_aload_n hx hb (dk DX10_hold 4 rfl) rfl (lv_at hl 0 rfl) ?_
    rcases bndX_ex hF with ⟨ke, mq4, hzq5, hF⟩ | ⟨uq6, mq4, hzq5, hF⟩
    · have hM := C_T_mustBeChase l hl0 G mq1 (Sum.inl ke) mq4 hzq5
      rw [show ouV (Sum.inl ke) = (Sum.inl ke : Ou) from rfl] at hM
      cases hF
      exact x_passV (d := 9) (k := ke) (As := []) (rest := []) C hex hR hM (by decide) (by decide) ob0 rfl wX10_260 rfl rfl (Nat.le_of_ble_eq_true rfl) hl.1 (dk DX10_hold 5 rfl)
    · have hM := C_T_mustBeChase l hl0 G mq1 (Sum.inr uq6) mq4 hzq5
      rw [show ouV (Sum.inr uq6) = (Sum.inr none : Ou) from rfl] at hM
      refine x_callVv (As := []) (rest := []) C hR hM (by decide) (by decide) ob0 rfl wX10_260 rfl rfl (Nat.le_of_ble_eq_true rfl) hl.1 ⟨Nat.zero_le _, Nat.zero_le _⟩ (dk DX10_hold 5 rfl) (fun H locs hR => ?_)
      refine lv_aload_n hx hb (dk DX10_hold 6 rfl) rfl (lv_at hl 0 rfl) ?_
      refine gX10_47 C hR ob0 rf0_7 (dk DX10_hold 7 rfl) ?_
      refine lv_aload_n hx hb (dk DX10_hold 8 rfl) rfl (lv_at hl 0 rfl) ?_
      refine gX10_37 C hR ob0 rf0_5 (dk DX10_hold 9 rfl) ?_
      obtain ⟨uq9, mq7, hzq8, hF⟩ := bnd_ex hF
      refine r_callVv (As := [.ref (G.2.1 + 16)]) (rest := []) C hR (C_Pa_remember l hl0 G mq4 _ _ hzq8) (by decide) (by decide) ob20 rfl wX10_240 rfl rfl (Nat.le_of_ble_eq_true rfl) hl.1 ⟨Nat.zero_le _, Nat.zero_le _⟩ (dk DX10_hold 10 rfl) (fun H locs hR => ?_)
      refine lv_aload_n hx hb (dk DX10_hold 11 rfl) rfl (lv_at hl 0 rfl) ?_
      refine gX10_37 C hR ob0 rf0_5 (dk DX10_hold 12 rfl) ?_
      obtain ⟨xq12, mq10, hzq11, hF⟩ := bnd_ex hF
      refine r_callVi (As := []) (rest := []) C hR (C_Ma_batting l hl0 G mq7 _ _ hzq11) (by decide) (by decide) ob16 rfl wX10_219 rfl rfl (Nat.le_of_ble_eq_true rfl) hl.1 ⟨Nat.zero_le _, Nat.zero_le _⟩ (dk DX10_hold 13 rfl) (fun H locs hR => ?_)
      refine lv_istore_n (lv' := [(2, .int xq12), (0, .ref (G.2.1 + 0)), (1, .int a1)]) hx hb (dk DX10_hold 14 rfl) rfl hl (by decide) rfl (fun ls hl => ?_)
      refine lv_aload_n hx hb (dk DX10_hold 15 rfl) rfl (lv_at hl 1 rfl) ?_
      refine gX10_37 C hR ob0 rf0_5 (dk DX10_hold 16 rfl) ?_
      refine lv_aload_n hx hb (dk DX10_hold 17 rfl) rfl (lv_at hl 1 rfl) ?_
      refine gX10_31 C hR ob0 rf0_4 (dk DX10_hold 18 rfl) ?_
      refine lv_iload_n hx hb (dk DX10_hold 19 rfl) rfl (lv_at hl 2 rfl) ?_
      refine lv_iconst (v := (1 : Int32)) hx hb (dk DX10_hold 20 rfl) (by decide) ?_
      obtain ⟨uq15, mq13, hzq14, hF⟩ := bnd_ex hF
      refine r_callVv (As := [.ref (G.2.1 + 3), .int a1, .int (b2i true)]) (rest := []) C hR (C_Ma_playSession l hl0 G a1 true mq10 _ _ hzq14) (by decide) (by decide) ob16 rfl wX10_253 rfl rfl (Nat.le_of_ble_eq_true rfl) hl.1 ⟨Nat.zero_le _, Nat.zero_le _⟩ (dk DX10_hold 21 rfl) (fun H locs hR => ?_)
      refine lv_aload_n hx hb (dk DX10_hold 22 rfl) rfl (lv_at hl 1 rfl) ?_
      refine gX10_37 C hR ob0 rf0_5 (dk DX10_hold 23 rfl) ?_
      refine lv_iload_n hx hb (dk DX10_hold 24 rfl) rfl (lv_at hl 0 rfl) ?_
      obtain ⟨xq18, mq16, hzq17, hF⟩ := bnd_ex hF
      refine r_callVi (As := [.int xq12]) (rest := []) C hR (C_Ma_leadOf l hl0 G xq12 mq13 _ _ hzq17) (by decide) (by decide) ob16 rfl wX10_257 rfl rfl (Nat.le_of_ble_eq_true rfl) hl.1 ⟨Nat.zero_le _, Nat.zero_le _⟩ (dk DX10_hold 25 rfl) (fun H locs hR => ?_)
      cases hF
      exact x_iret C hrt hR (dk DX10_hold 26 rfl)
