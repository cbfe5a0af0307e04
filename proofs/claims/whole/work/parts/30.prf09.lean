set_option maxHeartbeats 4000000 in
set_option maxRecDepth 100000 in
theorem C_M_tries (l : Launch) (hl0 : l.stackTraces = false) (G : GG) (a1 : Int32) (a2 : Int32) (a3 : Int32) (a4 : Int32) (m0 : Mem) (v : Unit) (m' : Mem) (hF : F_M_tries a1 a2 a3 a4 m0 = some (v, m')) : Ct l G mr0 N0 yX11_tries cX11_tries 5 none 6 [.ref (G.2.1 + 78), .int a1, .int a2, .int a3, .int a4] m0 none m' := by
  refine Ct_of hl0 (by decide) (Nat.le_of_ble_eq_true rfl) ?_
  intro p e s mid args below meth c ls C hrt hl hR
  have hx := C.1.1
  have hb := C.1.2.1
  have hl : lv_has ls 5 [(0, .ref (G.2.1 + 78)), (1, .int a1), (2, .int a2), (3, .int a3), (4, .int a4)] := hl
  unfold F_M_tries at hF
  refine lv_iload_n hx hb (dk DX11_tries 0 rfl) rfl (lv_at hl 2 rfl) ?_
  refine lv_iconst (v := (3 : Int32)) hx hb (dk DX11_tries 1 rfl) (by decide) ?_
  refine lv_icmp_le (tgt := 18) hx hb (dk DX11_tries 2 rfl) (by decide) (fun c2 => ?_) (fun c2 => ?_)
  · have hF := if_t c2 hF
    refine lv_aload_n hx hb (dk DX11_tries 11 rfl) rfl (lv_at hl 0 rfl) ?_
    refine lv_iload_n hx hb (dk DX11_tries 12 rfl) rfl (lv_at hl 2 rfl) ?_
    refine lv_iload_n hx hb (dk DX11_tries 13 rfl) rfl (lv_at hl 3 rfl) ?_
    obtain ⟨zq3, mq1, hzq2, hF⟩ := bnd_ex hF
    refine r_callVi (As := [.int a2, .int a3]) (rest := []) C hR (C_M_mayDeclare l hl0 G a2 a3 m0 _ _ hzq2) (by decide) (by decide) ob78 rfl wX11_372 rfl rfl (Nat.le_of_ble_eq_true rfl) hl.1 ⟨Nat.zero_le _, Nat.zero_le _⟩ (dk DX11_tries 14 rfl) (fun H locs hR => ?_)
    refine z_ifeq (tgt := 41) hx hb (dk DX11_tries 15 rfl) (by decide) (fun c24 => ?_) (fun c24 => ?_)
    · have hF := if_f c24 hF
      refine lv_aload_n hx hb (dk DX11_tries 23 rfl) rfl (lv_at hl 0 rfl) ?_
      refine lv_iload_n hx hb (dk DX11_tries 24 rfl) rfl (lv_at hl 2 rfl) ?_
      refine lv_iload_n hx hb (dk DX11_tries 25 rfl) rfl (lv_at hl 3 rfl) ?_
      refine lv_iload hx hb (dk DX11_tries 26 rfl) (lv_at hl 4 rfl) ?_
      obtain ⟨zq6, mq4, hzq5, hF⟩ := bnd_ex hF
      refine r_callVi (As := [.int a2, .int a3, .int a4]) (rest := []) C hR (C_M_mayFollow l hl0 G a2 a3 a4 mq1 _ _ hzq5) (by decide) (by decide) ob78 rfl wX11_379 rfl rfl (Nat.le_of_ble_eq_true rfl) hl.1 ⟨Nat.zero_le _, Nat.zero_le _⟩ (dk DX11_tries 27 rfl) (fun H locs hR => ?_)
      refine z_ifeq (tgt := 60) hx hb (dk DX11_tries 28 rfl) (by decide) (fun c49 => ?_) (fun c49 => ?_)
      · have hF := if_f c49 hF
        cases hF
        exact r_vret C hrt hR (dk DX11_tries 34 rfl)
      · have hF := if_t c49 hF
        refine lv_aload_n hx hb (dk DX11_tries 29 rfl) rfl (lv_at hl 0 rfl) ?_
        refine lv_iload_n hx hb (dk DX11_tries 30 rfl) rfl (lv_at hl 1 rfl) ?_
        refine lv_iconst (v := (3 : Int32)) hx hb (dk DX11_tries 31 rfl) (by decide) ?_
        refine lv_iload hx hb (dk DX11_tries 32 rfl) (lv_at hl 4 rfl) ?_
        obtain ⟨uq9, mq7, hzq8, hF⟩ := bnd_ex hF
        refine r_callVv (As := [.int a1, .int (3 : Int32), .int a4]) (rest := []) C hR (C_M_handsOver l hl0 G a1 (3 : Int32) a4 mq4 _ _ hzq8) (by decide) (by decide) ob78 rfl wX11_375 rfl rfl (Nat.le_of_ble_eq_true rfl) hl.1 ⟨Nat.zero_le _, Nat.zero_le _⟩ (dk DX11_tries 33 rfl) (fun H locs hR => ?_)
        cases hF
        exact r_vret C hrt hR (dk DX11_tries 34 rfl)
    · have hF := if_t c24 hF
      refine lv_aload_n hx hb (dk DX11_tries 16 rfl) rfl (lv_at hl 0 rfl) ?_
      refine lv_iload_n hx hb (dk DX11_tries 17 rfl) rfl (lv_at hl 1 rfl) ?_
      refine lv_iload_n hx hb (dk DX11_tries 18 rfl) rfl (lv_at hl 2 rfl) ?_
      obtain ⟨xq12, mq10, hzq11, hF⟩ := bnd_ex hF
      refine r_callSi (As := [.int a2]) (rest := [.int a1, .ref (G.2.1 + 78)]) C hR (C_M_nextKind l hl0 G a2 mq1 _ _ hzq11) (by decide) (by decide) wX11_361 rfl rfl (Nat.le_of_ble_eq_true rfl) hl.1 ⟨Nat.zero_le _, Nat.zero_le _⟩ (dk DX11_tries 19 rfl) (fun H locs hR => ?_)
      refine lv_iload hx hb (dk DX11_tries 20 rfl) (lv_at hl 4 rfl) ?_
      obtain ⟨uq15, mq13, hzq14, hF⟩ := bnd_ex hF
      refine r_callVv (As := [.int a1, .int xq12, .int a4]) (rest := []) C hR (C_M_handsOver l hl0 G a1 xq12 a4 mq10 _ _ hzq14) (by decide) (by decide) ob78 rfl wX11_375 rfl rfl (Nat.le_of_ble_eq_true rfl) hl.1 ⟨Nat.zero_le _, Nat.zero_le _⟩ (dk DX11_tries 21 rfl) (fun H locs hR => ?_)
      refine lv_goto (tgt := 60) hx hb (dk DX11_tries 22 rfl) (by decide) ?_
      cases hF
      exact r_vret C hrt hR (dk DX11_tries 34 rfl)
  · have hF := if_f c2 hF
    refine lv_aload_n hx hb (dk DX11_tries 3 rfl) rfl (lv_at hl 0 rfl) ?_
    refine lv_iload_n hx hb (dk DX11_tries 4 rfl) rfl (lv_at hl 1 rfl) ?_
    refine lv_iload_n hx hb (dk DX11_tries 5 rfl) rfl (lv_at hl 2 rfl) ?_
    refine lv_iload_n hx hb (dk DX11_tries 6 rfl) rfl (lv_at hl 3 rfl) ?_
    refine lv_iload hx hb (dk DX11_tries 7 rfl) (lv_at hl 4 rfl) ?_
    refine lv_iconst (v := (1 : Int32)) hx hb (dk DX11_tries 8 rfl) (by decide) ?_
    obtain ⟨uq18, mq16, hzq17, hF⟩ := bnd_ex hF
    refine r_callVv (As := [.int a1, .int a2, .int a3, .int a4, .int (b2i true)]) (rest := []) C hR (C_M_goesOn l hl0 G a1 a2 a3 a4 true m0 _ _ hzq17) (by decide) (by decide) ob78 rfl wX11_368 rfl rfl (Nat.le_of_ble_eq_true rfl) hl.1 ⟨Nat.zero_le _, Nat.zero_le _⟩ (dk DX11_tries 9 rfl) (fun H locs hR => ?_)
    refine lv_goto (tgt := 60) hx hb (dk DX11_tries 10 rfl) (by decide) ?_
    cases hF
    exact r_vret C hrt hR (dk DX11_tries 34 rfl)
set_option maxHeartbeats 4000000 in
set_option maxRecDepth 100000 in
theorem C_M_chooses (l : Launch) (hl0 : l.stackTraces = false) (G : GG) (a1 : Int32) (a2 : Int32) (a3 : Int32) (a4 : Int32) (m0 : Mem) (v : Bool) (m' : Mem) (hF : F_M_chooses a1 a2 a3 a4 m0 = some (v, m')) : Ct l G mr0 N0 yX11_chooses cX11_chooses 9 (some .boolean) 7 [.ref (G.2.1 + 78), .int a1, .int a2, .int a3, .int a4] m0 (some (.int (b2i v))) m' := by
  refine Ct_of hl0 (by decide) (Nat.le_of_ble_eq_true rfl) ?_
  intro p e s mid args below meth c ls C hrt hl hR
  have hx := C.1.1
  have hb := C.1.2.1
  have hl : lv_has ls 9 [(0, .ref (G.2.1 + 78)), (1, .int a1), (2, .int a2), (3, .int a3), (4, .int a4)] := hl
  unfold F_M_chooses at hF
  refine lv_aload_n hx hb (dk DX11_chooses 0 rfl) rfl (lv_at hl 0 rfl) ?_
  refine gX11_340 C hR ob78 (dk DX11_chooses 1 rfl) ?_
  refine lv_topi (fun xq1 exq1 => ?_)
  have hF := lt_at exq1 hF
  refine lv_istore (lv' := [(5, .int xq1), (0, .ref (G.2.1 + 78)), (1, .int a1), (2, .int a2), (3, .int a3), (4, .int a4)]) hx hb (dk DX11_chooses 2 rfl) hl (by decide) rfl (fun ls hl => ?_)
  refine lv_aload_n hx hb (dk DX11_chooses 3 rfl) rfl (lv_at hl 1 rfl) ?_
  refine gX11_343 C hR ob78 (dk DX11_chooses 4 rfl) ?_
  refine lv_topi (fun xq2 exq2 => ?_)
  have hF := lt_at exq2 hF
  refine lv_istore (lv' := [(6, .int xq2), (5, .int xq1), (0, .ref (G.2.1 + 78)), (1, .int a1), (2, .int a2), (3, .int a3), (4, .int a4)]) hx hb (dk DX11_chooses 5 rfl) hl (by decide) rfl (fun ls hl => ?_)
  refine lv_aload_n hx hb (dk DX11_chooses 6 rfl) rfl (lv_at hl 2 rfl) ?_
  refine lv_iload_n hx hb (dk DX11_chooses 7 rfl) rfl (lv_at hl 3 rfl) ?_
  obtain ⟨yq5, mq3, hzq4, hF⟩ := bnd_ex hF
  refine r_callVl (As := [.int a1]) (rest := []) C hR (C_M_got l hl0 G a1 m0 _ _ hzq4) (by decide) (by decide) ob78 rfl wX11_382 rfl rfl (Nat.le_of_ble_eq_true rfl) hl.1 ⟨Nat.zero_le _, Nat.zero_le _⟩ (dk DX11_chooses 8 rfl) (fun H locs hR => ?_)
  refine lv_lstore (lv' := [(7, .long yq5), (6, .int xq2), (5, .int xq1), (0, .ref (G.2.1 + 78)), (1, .int a1), (2, .int a2), (3, .int a3), (4, .int a4)]) hx hb (dk DX11_chooses 9 rfl) hl (by decide) rfl (fun ls hl => ?_)
  refine lv_aload_n hx hb (dk DX11_chooses 10 rfl) rfl (lv_at hl 3 rfl) ?_
  refine lv_iload_n hx hb (dk DX11_chooses 11 rfl) rfl (lv_at hl 4 rfl) ?_
  refine lv_iload_n hx hb (dk DX11_chooses 12 rfl) rfl (lv_at hl 5 rfl) ?_
  refine lv_iload_n hx hb (dk DX11_chooses 13 rfl) rfl (lv_at hl 6 rfl) ?_
  refine lv_iload hx hb (dk DX11_chooses 14 rfl) (lv_at hl 7 rfl) ?_
  obtain ⟨uq8, mq6, hzq7, hF⟩ := bnd_ex hF
  refine r_callVv (As := [.int a1, .int a2, .int a3, .int a4]) (rest := []) C hR (C_M_tries l hl0 G a1 a2 a3 a4 mq3 _ _ hzq7) (by decide) (by decide) ob78 rfl wX11_386 rfl rfl (Nat.le_of_ble_eq_true rfl) hl.1 ⟨Nat.zero_le _, Nat.zero_le _⟩ (dk DX11_chooses 15 rfl) (fun H locs hR => ?_)
  refine lv_aload_n hx hb (dk DX11_chooses 16 rfl) rfl (lv_at hl 3 rfl) ?_
  refine lv_iload_n hx hb (dk DX11_chooses 17 rfl) rfl (lv_at hl 4 rfl) ?_
  obtain ⟨yq11, mq9, hzq10, hF⟩ := bnd_ex hF
  refine r_callVl (As := [.int a1]) (rest := []) C hR (C_M_got l hl0 G a1 mq6 _ _ hzq10) (by decide) (by decide) ob78 rfl wX11_382 rfl rfl (Nat.le_of_ble_eq_true rfl) hl.1 ⟨Nat.zero_le _, Nat.zero_le _⟩ (dk DX11_chooses 18 rfl) (fun H locs hR => ?_)
  refine lv_lload hx hb (dk DX11_chooses 19 rfl) (lv_at hl 0 rfl) ?_
  refine l_ifle (tgt := 41) hx hb (dk DX11_chooses 20 rfl) (dk DX11_chooses 21 rfl) (by decide) (fun c35 => ?_) (fun c35 => ?_)
  · have hF := if_t c35 hF
    refine lv_aload_n hx hb (dk DX11_chooses 24 rfl) rfl (lv_at hl 3 rfl) ?_
    refine lv_iload hx hb (dk DX11_chooses 25 rfl) (lv_at hl 2 rfl) ?_
    refine pX11_340 (x := xq1) C hR ob78 (dk DX11_chooses 26 rfl) (fun H locs hR => ?_)
    obtain ⟨mq12, emq12, hF⟩ := lt_ex hF
    have hR := Rp_at emq12 hR
    refine lv_aload_n hx hb (dk DX11_chooses 27 rfl) rfl (lv_at hl 3 rfl) ?_
    refine lv_iload hx hb (dk DX11_chooses 28 rfl) (lv_at hl 1 rfl) ?_
    refine pX11_343 (x := xq2) C hR ob78 (dk DX11_chooses 29 rfl) (fun H locs hR => ?_)
    obtain ⟨mq13, emq13, hF⟩ := lt_ex hF
    have hR := Rp_at emq13 hR
    refine lv_iconst (v := (0 : Int32)) hx hb (dk DX11_chooses 30 rfl) (by decide) ?_
    cases hF
    exact r_zret C hrt hR (dk DX11_chooses 31 rfl)
  · have hF := if_f c35 hF
    refine lv_iconst (v := (1 : Int32)) hx hb (dk DX11_chooses 22 rfl) (by decide) ?_
    cases hF
    exact r_zret C hrt hR (dk DX11_chooses 23 rfl)
set_option maxHeartbeats 4000000 in
set_option maxRecDepth 100000 in
theorem C_M_counts (l : Launch) (hl0 : l.stackTraces = false) (G : GG) (a1 : Int32) (a2 : Int32) (a3 : Int32) (a4 : Int32) (m0 : Mem) (v : Unit) (m' : Mem) (hF : F_M_counts a1 a2 a3 a4 m0 = some (v, m')) : Ct l G mr0 N0 yX11_counts cX11_counts 5 none 8 [.ref (G.2.1 + 78), .int a1, .int a2, .int a3, .int a4] m0 none m' := by
  refine Ct_of hl0 (by decide) (Nat.le_of_ble_eq_true rfl) ?_
  intro p e s mid args below meth c ls C hrt hl hR
  have hx := C.1.1
  have hb := C.1.2.1
  have hl : lv_has ls 5 [(0, .ref (G.2.1 + 78)), (1, .int a1), (2, .int a2), (3, .int a3), (4, .int a4)] := hl
  unfold F_M_counts at hF
  refine lv_iload_n hx hb (dk DX11_counts 0 rfl) rfl (lv_at hl 2 rfl) ?_
  refine lv_iconst (v := (3 : Int32)) hx hb (dk DX11_counts 1 rfl) (by decide) ?_
  obtain ⟨k25_1, ek25_1, hF⟩ := lt_ex hF
  have J25 : ∀ (mq1 : Mem) (H : Heap) (locs : List Loc) (ls : Array Slot), lv_has ls 5 [(0, .ref (G.2.1 + 78)), (1, .int a1), (2, .int a2), (3, .int a3), (4, .int a4)] → Rp G mr0 N0 mq1 s H locs → k25_1  mq1 = some (v, m') → W p l e (rmD 8) s mid args below meth c H locs 0 0 (MQ below (QR G mr0 N0 none m') args s 0 0 (fun q => G.2.1 ≤ q)) (F0 mid 25 ls []) := by
    intro  mq1 H locs ls hl hR hF
    rw [ek25_1] at hF
    refine lv_aload_n hx hb (dk DX11_counts 14 rfl) rfl (lv_at hl 0 rfl) ?_
    refine lv_iload_n hx hb (dk DX11_counts 15 rfl) rfl (lv_at hl 1 rfl) ?_
    refine lv_iload_n hx hb (dk DX11_counts 16 rfl) rfl (lv_at hl 2 rfl) ?_
    refine lv_iload_n hx hb (dk DX11_counts 17 rfl) rfl (lv_at hl 3 rfl) ?_
    refine lv_iload hx hb (dk DX11_counts 18 rfl) (lv_at hl 4 rfl) ?_
    refine lv_iconst (v := (0 : Int32)) hx hb (dk DX11_counts 19 rfl) (by decide) ?_
    obtain ⟨uq4, mq2, hzq3, hF⟩ := bnd_ex hF
    refine r_callVv (As := [.int a1, .int a2, .int a3, .int a4, .int (b2i false)]) (rest := []) C hR (C_M_goesOn l hl0 G a1 a2 a3 a4 false mq1 _ _ hzq3) (by decide) (by decide) ob78 rfl wX11_368 rfl rfl (Nat.le_of_ble_eq_true rfl) hl.1 ⟨Nat.zero_le _, Nat.zero_le _⟩ (dk DX11_counts 20 rfl) (fun H locs hR => ?_)
    refine lv_aload_n hx hb (dk DX11_counts 21 rfl) rfl (lv_at hl 0 rfl) ?_
    refine gX11_390 C hR ob78 (dk DX11_counts 22 rfl) ?_
    refine z_ifne (tgt := 52) hx hb (dk DX11_counts 23 rfl) (by decide) (fun c39 => ?_) (fun c39 => ?_)
    · have hF := if_t c39 hF
      cases hF
      exact r_vret C hrt hR (dk DX11_counts 31 rfl)
    · have hF := if_f c39 hF
      refine lv_aload_n hx hb (dk DX11_counts 24 rfl) rfl (lv_at hl 0 rfl) ?_
      refine lv_iload_n hx hb (dk DX11_counts 25 rfl) rfl (lv_at hl 1 rfl) ?_
      refine lv_iload_n hx hb (dk DX11_counts 26 rfl) rfl (lv_at hl 2 rfl) ?_
      refine lv_iload_n hx hb (dk DX11_counts 27 rfl) rfl (lv_at hl 3 rfl) ?_
      refine lv_iload hx hb (dk DX11_counts 28 rfl) (lv_at hl 4 rfl) ?_
      obtain ⟨zq7, mq5, hzq6, hF⟩ := bnd_ex hF
      refine r_callVi (As := [.int a1, .int a2, .int a3, .int a4]) (rest := []) C hR (C_M_chooses l hl0 G a1 a2 a3 a4 mq2 _ _ hzq6) (by decide) (by decide) ob78 rfl wX11_393 rfl rfl (Nat.le_of_ble_eq_true rfl) hl.1 ⟨Nat.zero_le _, Nat.zero_le _⟩ (dk DX11_counts 29 rfl) (fun H locs hR => ?_)
      refine lv_pop hx hb (dk DX11_counts 30 rfl) rfl ?_
      cases hF
      exact r_vret C hrt hR (dk DX11_counts 31 rfl)
  refine lv_icmp_le (tgt := 25) hx hb (dk DX11_counts 2 rfl) (by decide) (fun c2 => ?_) (fun c2 => ?_)
  · have hF := if_t c2 hF
    exact J25 m0 _ _ ls (lv_sub hl [0, 1, 2, 3, 4] rfl) hR hF
  · have hF := if_f c2 hF
    refine lv_iload hx hb (dk DX11_counts 3 rfl) (lv_at hl 4 rfl) ?_
    refine lv_if_le (tgt := 25) hx hb (dk DX11_counts 4 rfl) (by decide) (fun c7 => ?_) (fun c7 => ?_)
    · have hF := if_t c7 hF
      exact J25 m0 _ _ ls (lv_sub hl [0, 1, 2, 3, 4] rfl) hR hF
    · have hF := if_f c7 hF
      refine lv_aload_n hx hb (dk DX11_counts 5 rfl) rfl (lv_at hl 0 rfl) ?_
      refine lv_aload_n hx hb (dk DX11_counts 6 rfl) rfl (lv_at hl 0 rfl) ?_
      refine lv_iload_n hx hb (dk DX11_counts 7 rfl) rfl (lv_at hl 1 rfl) ?_
      obtain ⟨xq10, mq8, hzq9, hF⟩ := bnd_ex hF
      refine r_callVi (As := [.int a1]) (rest := [.ref (G.2.1 + 78)]) C hR (C_M_all l hl0 G a1 m0 _ _ hzq9) (by decide) (by decide) ob78 rfl wX11_337 rfl rfl (Nat.le_of_ble_eq_true rfl) hl.1 ⟨Nat.zero_le _, Nat.zero_le _⟩ (dk DX11_counts 8 rfl) (fun H locs hR => ?_)
      refine pX11_340 (x := xq10) C hR ob78 (dk DX11_counts 9 rfl) (fun H locs hR => ?_)
      obtain ⟨mq11, emq11, hF⟩ := lt_ex hF
      have hR := Rp_at emq11 hR
      refine lv_aload_n hx hb (dk DX11_counts 10 rfl) rfl (lv_at hl 0 rfl) ?_
      refine lv_iconst (v := (0 : Int32)) hx hb (dk DX11_counts 11 rfl) (by decide) ?_
      refine pX11_343 (x := (0 : Int32)) C hR ob78 (dk DX11_counts 12 rfl) (fun H locs hR => ?_)
      obtain ⟨mq12, emq12, hF⟩ := lt_ex hF
      have hR := Rp_at emq12 hR
      cases hF
      exact r_vret C hrt hR (dk DX11_counts 13 rfl)
set_option maxHeartbeats 4000000 in
set_option maxRecDepth 100000 in
theorem C_M_layers (l : Launch) (hl0 : l.stackTraces = false) (G : GG) (a1 : Int32) (a2 : Int32) (a3 : Int32) (m0 : Mem) (v : Unit) (m' : Mem) (hF : F_M_layers a1 a2 a3 m0 = some (v, m')) : Ct l G mr0 N0 yX11_layers cX11_layers 10 none 9 [.ref (G.2.1 + 78), .int a1, .int a2, .int a3] m0 none m' := by
  refine Ct_of hl0 (by decide) (Nat.le_of_ble_eq_true rfl) ?_
  intro p e s mid args below meth c ls C hrt hl hR
  have hx := C.1.1
  have hb := C.1.2.1
  have hl : lv_has ls 10 [(0, .ref (G.2.1 + 78)), (1, .int a1), (2, .int a2), (3, .int a3)] := hl
  unfold F_M_layers at hF
  refine lv_aload_n hx hb (dk DX11_layers 0 rfl) rfl (lv_at hl 0 rfl) ?_
  refine lv_iload_n hx hb (dk DX11_layers 1 rfl) rfl (lv_at hl 1 rfl) ?_
  refine pX11_326 (x := a1) C hR ob78 (dk DX11_layers 2 rfl) (fun H locs hR => ?_)
  obtain ⟨mq1, emq1, hF⟩ := lt_ex hF
  have hR := Rp_at emq1 hR
  refine lv_aload_n hx hb (dk DX11_layers 3 rfl) rfl (lv_at hl 0 rfl) ?_
  obtain ⟨xq4, mq2, hzq3, hF⟩ := bnd_ex hF
  refine r_callVi (As := []) (rest := []) C hR (C_M_mostRuns l hl0 G mq1 _ _ hzq3) (by decide) (by decide) ob78 rfl wX11_396 rfl rfl (Nat.le_of_ble_eq_true rfl) hl.1 ⟨Nat.zero_le _, Nat.zero_le _⟩ (dk DX11_layers 4 rfl) (fun H locs hR => ?_)
  refine lv_istore (lv' := [(4, .int xq4), (0, .ref (G.2.1 + 78)), (1, .int a1), (2, .int a2), (3, .int a3)]) hx hb (dk DX11_layers 5 rfl) hl (by decide) rfl (fun ls hl => ?_)
  refine lv_aload_n hx hb (dk DX11_layers 6 rfl) rfl (lv_at hl 1 rfl) ?_
  obtain ⟨xq7, mq5, hzq6, hF⟩ := bnd_ex hF
  refine r_callVi (As := []) (rest := []) C hR (C_M_size l hl0 G mq2 _ _ hzq6) (by decide) (by decide) ob78 rfl wX11_63 rfl rfl (Nat.le_of_ble_eq_true rfl) hl.1 ⟨Nat.zero_le _, Nat.zero_le _⟩ (dk DX11_layers 7 rfl) (fun H locs hR => ?_)
  refine lv_iconst (v := (1 : Int32)) hx hb (dk DX11_layers 8 rfl) (by decide) ?_
  refine lv_isub hx hb (dk DX11_layers 9 rfl) ?_
  refine lv_topi (fun xq8 exq8 => ?_)
  have hF := lt_at exq8 hF
  refine lv_istore (lv' := [(5, .int xq8), (4, .int xq4), (0, .ref (G.2.1 + 78)), (1, .int a1), (2, .int a2), (3, .int a3)]) hx hb (dk DX11_layers 10 rfl) hl (by decide) rfl (fun ls hl => ?_)
  have L19 : ∀ (nf : Nat) (xq10 : Int32) (mq9 : Mem) (H : Heap) (locs : List Loc) (ls : Array Slot), lv_has ls 10 [(0, .ref (G.2.1 + 78)), (2, .int a2), (3, .int a3), (4, .int xq4), (5, .int xq10)] → Rp G mr0 N0 mq9 s H locs → F_M_layers_L19 a2 a3 xq4 nf xq10 mq9 = some (v, m') → W p l e (rmD 9) s mid args below meth c H locs 0 0 (MQ below (QR G mr0 N0 none m') args s 0 0 (fun q => G.2.1 ≤ q)) (F0 mid 19 ls []) := by
    intro nf
    induction nf with
    | zero =>
      intro xq10 mq9 H locs ls hl hR hF
      rw [F_M_layers_L19] at hF
      cases hF
    | succ nf ihq12 =>
      intro xq10 mq9 H locs ls hl hR hF
      rw [F_M_layers_L19] at hF
      refine lv_iload hx hb (dk DX11_layers 11 rfl) (lv_at hl 4 rfl) ?_
      refine lv_iload_n hx hb (dk DX11_layers 12 rfl) rfl (lv_at hl 1 rfl) ?_
      refine lv_icmp_lt (tgt := 154) hx hb (dk DX11_layers 13 rfl) (by decide) (fun c22 => ?_) (fun c22 => ?_)
      · have hF := if_t c22 hF
        cases hF
        exact r_vret C hrt hR (dk DX11_layers 76 rfl)
      · have hF := if_f c22 hF
        refine lv_aload_n hx hb (dk DX11_layers 14 rfl) rfl (lv_at hl 0 rfl) ?_
        refine lv_iload hx hb (dk DX11_layers 15 rfl) (lv_at hl 4 rfl) ?_
        obtain ⟨uq15, mq13, hzq14, hF⟩ := bnd_ex hF
        refine r_callVv (As := [.int xq10]) (rest := []) C hR (C_M_laysLevels l hl0 G xq10 mq9 _ _ hzq14) (by decide) (by decide) ob78 rfl wX11_399 rfl rfl (Nat.le_of_ble_eq_true rfl) hl.1 ⟨Nat.zero_le _, Nat.zero_le _⟩ (dk DX11_layers 16 rfl) (fun H locs hR => ?_)
        refine lv_sipush (v := (162 : Int32)) hx hb (dk DX11_layers 17 rfl) (by decide) ?_
        refine lv_iload_n hx hb (dk DX11_layers 18 rfl) rfl (lv_at hl 2 rfl) ?_
        refine lv_iload hx hb (dk DX11_layers 19 rfl) (lv_at hl 3 rfl) ?_
        refine lv_iload hx hb (dk DX11_layers 20 rfl) (lv_at hl 4 rfl) ?_
        refine lv_iload_n hx hb (dk DX11_layers 21 rfl) rfl (lv_at hl 1 rfl) ?_
        refine lv_isub hx hb (dk DX11_layers 22 rfl) ?_
        refine lv_imul hx hb (dk DX11_layers 23 rfl) ?_
        refine lv_iadd hx hb (dk DX11_layers 24 rfl) ?_
        refine r_mnI C (gd q1941 rfl) (by decide) (Nat.le_of_ble_eq_true rfl) hl.1 ⟨Nat.zero_le _, Nat.zero_le _⟩ (dk DX11_layers 25 rfl) ?_
        refine lv_topi (fun xq16 exq16 => ?_)
        have hF := lt_at exq16 hF
        refine lv_istore (lv' := [(6, .int xq16), (0, .ref (G.2.1 + 78)), (2, .int a2), (3, .int a3), (4, .int xq4), (5, .int xq10)]) hx hb (dk DX11_layers 26 rfl) hl (by decide) rfl (fun ls hl => ?_)
        refine lv_iconst (v := (5 : Int32)) hx hb (dk DX11_layers 27 rfl) (by decide) ?_
        refine lv_istore (lv' := [(7, .int (5 : Int32)), (6, .int xq16), (0, .ref (G.2.1 + 78)), (2, .int a2), (3, .int a3), (4, .int xq4), (5, .int xq10)]) hx hb (dk DX11_layers 28 rfl) hl (by decide) rfl (fun ls hl => ?_)
        obtain ⟨k148_17, ek148_17, hF⟩ := lt_ex hF
        have J148 : ∀ (mq17 : Mem) (H : Heap) (locs : List Loc) (ls : Array Slot), lv_has ls 10 [(0, .ref (G.2.1 + 78)), (2, .int a2), (3, .int a3), (4, .int xq4), (5, .int xq10)] → Rp G mr0 N0 mq17 s H locs → k148_17  mq17 = some (v, m') → W p l e (rmD 9) s mid args below meth c H locs 0 0 (MQ below (QR G mr0 N0 none m') args s 0 0 (fun q => G.2.1 ≤ q)) (F0 mid 148 ls []) := by
          intro  mq17 H locs ls hl hR hF
          rw [ek148_17] at hF
          obtain ⟨xq18, exq18, hF⟩ := lt_ex hF
          refine lv_iinc (v := xq18) (lv' := [(5, .int xq18), (0, .ref (G.2.1 + 78)), (2, .int a2), (3, .int a3), (4, .int xq4)]) hx hb (dk DX11_layers 74 rfl) hl (k := 4) rfl (by rw [exq18]; rfl) (by decide) rfl (fun ls hl => ?_)
          refine lv_goto (tgt := 19) hx hb (dk DX11_layers 75 rfl) (by decide) ?_
          exact ihq12 xq18 mq17 _ _ ls (lv_sub hl [1, 2, 3, 4, 0] rfl) hR hF
        have L51 : ∀ (nf : Nat) (xq20 : Int32) (mq19 : Mem) (H : Heap) (locs : List Loc) (ls : Array Slot), lv_has ls 10 [(0, .ref (G.2.1 + 78)), (2, .int a2), (3, .int a3), (4, .int xq4), (5, .int xq10), (6, .int xq16), (7, .int xq20)] → Rp G mr0 N0 mq19 s H locs → F_M_layers_L51 xq10 xq16 k148_17 nf xq20 mq19 = some (v, m') → W p l e (rmD 9) s mid args below meth c H locs 0 0 (MQ below (QR G mr0 N0 none m') args s 0 0 (fun q => G.2.1 ≤ q)) (F0 mid 51 ls []) := by
          intro nf
          induction nf with
          | zero =>
            intro xq20 mq19 H locs ls hl hR hF
            rw [F_M_layers_L51] at hF
            cases hF
          | succ nf ihq22 =>
            intro xq20 mq19 H locs ls hl hR hF
            rw [F_M_layers_L51] at hF
            refine lv_iload hx hb (dk DX11_layers 29 rfl) (lv_at hl 6 rfl) ?_
            refine lv_if_lt (tgt := 148) hx hb (dk DX11_layers 30 rfl) (by decide) (fun c53 => ?_) (fun c53 => ?_)
            · have hF := if_t c53 hF
              exact J148 mq19 _ _ ls (lv_sub hl [0, 1, 2, 3, 4] rfl) hR hF
            · have hF := if_f c53 hF
              refine lv_iconst (v := (0 : Int32)) hx hb (dk DX11_layers 31 rfl) (by decide) ?_
              refine lv_istore (lv' := [(8, .int (0 : Int32)), (0, .ref (G.2.1 + 78)), (2, .int a2), (3, .int a3), (4, .int xq4), (5, .int xq10), (6, .int xq16), (7, .int xq20)]) hx hb (dk DX11_layers 32 rfl) hl (by decide) rfl (fun ls hl => ?_)
              obtain ⟨k142_23, ek142_23, hF⟩ := lt_ex hF
              have J142 : ∀ (mq23 : Mem) (H : Heap) (locs : List Loc) (ls : Array Slot), lv_has ls 10 [(0, .ref (G.2.1 + 78)), (2, .int a2), (3, .int a3), (4, .int xq4), (5, .int xq10), (6, .int xq16), (7, .int xq20)] → Rp G mr0 N0 mq23 s H locs → k142_23  mq23 = some (v, m') → W p l e (rmD 9) s mid args below meth c H locs 0 0 (MQ below (QR G mr0 N0 none m') args s 0 0 (fun q => G.2.1 ≤ q)) (F0 mid 142 ls []) := by
                intro  mq23 H locs ls hl hR hF
                rw [ek142_23] at hF
                obtain ⟨xq24, exq24, hF⟩ := lt_ex hF
                refine lv_iinc (v := xq24) (lv' := [(7, .int xq24), (0, .ref (G.2.1 + 78)), (2, .int a2), (3, .int a3), (4, .int xq4), (5, .int xq10), (6, .int xq16)]) hx hb (dk DX11_layers 72 rfl) hl (k := 6) rfl (by rw [exq24]; rfl) (by decide) rfl (fun ls hl => ?_)
                refine lv_goto (tgt := 51) hx hb (dk DX11_layers 73 rfl) (by decide) ?_
                exact ihq22 xq24 mq23 _ _ ls (lv_sub hl [1, 2, 3, 4, 5, 6, 0] rfl) hR hF
              have L59 : ∀ (nf : Nat) (xq26 : Int32) (mq25 : Mem) (H : Heap) (locs : List Loc) (ls : Array Slot), lv_has ls 10 [(0, .ref (G.2.1 + 78)), (2, .int a2), (3, .int a3), (4, .int xq4), (5, .int xq10), (6, .int xq16), (7, .int xq20), (8, .int xq26)] → Rp G mr0 N0 mq25 s H locs → F_M_layers_L59 xq10 xq16 xq20 k142_23 nf xq26 mq25 = some (v, m') → W p l e (rmD 9) s mid args below meth c H locs 0 0 (MQ below (QR G mr0 N0 none m') args s 0 0 (fun q => G.2.1 ≤ q)) (F0 mid 59 ls []) := by
                intro nf
                induction nf with
                | zero =>
                  intro xq26 mq25 H locs ls hl hR hF
                  rw [F_M_layers_L59] at hF
                  cases hF
                | succ nf ihq28 =>
                  intro xq26 mq25 H locs ls hl hR hF
                  rw [F_M_layers_L59] at hF
                  refine lv_iload hx hb (dk DX11_layers 33 rfl) (lv_at hl 7 rfl) ?_
                  refine lv_bipush (v := (10 : Int32)) hx hb (dk DX11_layers 34 rfl) (by decide) ?_
                  refine lv_icmp_gt (tgt := 142) hx hb (dk DX11_layers 35 rfl) (by decide) (fun c63 => ?_) (fun c63 => ?_)
                  · have hF := if_t c63 hF
                    exact J142 mq25 _ _ ls (lv_sub hl [0, 1, 2, 3, 4, 5, 6] rfl) hR hF
                  · have hF := if_f c63 hF
                    refine lv_iload hx hb (dk DX11_layers 36 rfl) (lv_at hl 5 rfl) ?_
                    refine lv_ineg hx hb (dk DX11_layers 37 rfl) ?_
                    refine lv_topi (fun xq29 exq29 => ?_)
                    have hF := lt_at exq29 hF
                    refine lv_istore (lv' := [(9, .int xq29), (0, .ref (G.2.1 + 78)), (2, .int a2), (3, .int a3), (4, .int xq4), (5, .int xq10), (6, .int xq16), (7, .int xq20), (8, .int xq26)]) hx hb (dk DX11_layers 38 rfl) hl (by decide) rfl (fun ls hl => ?_)
                    obtain ⟨k136_30, ek136_30, hF⟩ := lt_ex hF
                    have J136 : ∀ (mq30 : Mem) (H : Heap) (locs : List Loc) (ls : Array Slot), lv_has ls 10 [(0, .ref (G.2.1 + 78)), (2, .int a2), (3, .int a3), (4, .int xq4), (5, .int xq10), (6, .int xq16), (7, .int xq20), (8, .int xq26)] → Rp G mr0 N0 mq30 s H locs → k136_30  mq30 = some (v, m') → W p l e (rmD 9) s mid args below meth c H locs 0 0 (MQ below (QR G mr0 N0 none m') args s 0 0 (fun q => G.2.1 ≤ q)) (F0 mid 136 ls []) := by
                      intro  mq30 H locs ls hl hR hF
                      rw [ek136_30] at hF
                      obtain ⟨xq31, exq31, hF⟩ := lt_ex hF
                      refine lv_iinc (v := xq31) (lv' := [(8, .int xq31), (0, .ref (G.2.1 + 78)), (2, .int a2), (3, .int a3), (4, .int xq4), (5, .int xq10), (6, .int xq16), (7, .int xq20)]) hx hb (dk DX11_layers 70 rfl) hl (k := 7) rfl (by rw [exq31]; rfl) (by decide) rfl (fun ls hl => ?_)
                      refine lv_goto (tgt := 59) hx hb (dk DX11_layers 71 rfl) (by decide) ?_
                      exact ihq28 xq31 mq30 _ _ ls (lv_sub hl [1, 2, 3, 4, 5, 6, 7, 0] rfl) hR hF
                    have L71 : ∀ (nf : Nat) (xq33 : Int32) (mq32 : Mem) (H : Heap) (locs : List Loc) (ls : Array Slot), lv_has ls 10 [(0, .ref (G.2.1 + 78)), (2, .int a2), (3, .int a3), (4, .int xq4), (5, .int xq10), (6, .int xq16), (7, .int xq20), (8, .int xq26), (9, .int xq33)] → Rp G mr0 N0 mq32 s H locs → F_M_layers_L71 xq10 xq16 xq20 xq26 k136_30 nf xq33 mq32 = some (v, m') → W p l e (rmD 9) s mid args below meth c H locs 0 0 (MQ below (QR G mr0 N0 none m') args s 0 0 (fun q => G.2.1 ≤ q)) (F0 mid 71 ls []) := by
                      intro nf
                      induction nf with
                      | zero =>
                        intro xq33 mq32 H locs ls hl hR hF
                        rw [F_M_layers_L71] at hF
                        cases hF
                      | succ nf ihq35 =>
                        intro xq33 mq32 H locs ls hl hR hF
                        rw [F_M_layers_L71] at hF
                        refine lv_iload hx hb (dk DX11_layers 39 rfl) (lv_at hl 8 rfl) ?_
                        refine lv_iload hx hb (dk DX11_layers 40 rfl) (lv_at hl 5 rfl) ?_
                        refine lv_icmp_gt (tgt := 136) hx hb (dk DX11_layers 41 rfl) (by decide) (fun c75 => ?_) (fun c75 => ?_)
                        · have hF := if_t c75 hF
                          exact J136 mq32 _ _ ls (lv_sub hl [0, 1, 2, 3, 4, 5, 6, 7] rfl) hR hF
                        · have hF := if_f c75 hF
                          refine lv_aload_n hx hb (dk DX11_layers 42 rfl) rfl (lv_at hl 0 rfl) ?_
                          refine lv_iload hx hb (dk DX11_layers 43 rfl) (lv_at hl 4 rfl) ?_
                          refine lv_iload hx hb (dk DX11_layers 44 rfl) (lv_at hl 6 rfl) ?_
                          refine lv_iload hx hb (dk DX11_layers 45 rfl) (lv_at hl 7 rfl) ?_
                          refine lv_iload hx hb (dk DX11_layers 46 rfl) (lv_at hl 8 rfl) ?_
                          obtain ⟨uq38, mq36, hzq37, hF⟩ := bnd_ex hF
                          refine r_callVv (As := [.int xq10, .int xq20, .int xq26, .int xq33]) (rest := []) C hR (C_M_counts l hl0 G xq10 xq20 xq26 xq33 mq32 _ _ hzq37) (by decide) (by decide) ob78 rfl wX11_403 rfl rfl (Nat.le_of_ble_eq_true rfl) hl.1 ⟨Nat.zero_le _, Nat.zero_le _⟩ (dk DX11_layers 47 rfl) (fun H locs hR => ?_)
                          refine lv_aload_n hx hb (dk DX11_layers 48 rfl) rfl (lv_at hl 0 rfl) ?_
                          refine gX11_40 C hR ob78 rf78_17 (dk DX11_layers 49 rfl) ?_
                          refine lv_iload hx hb (dk DX11_layers 50 rfl) (lv_at hl 4 rfl) ?_
                          refine lv_iload hx hb (dk DX11_layers 51 rfl) (lv_at hl 6 rfl) ?_
                          refine lv_iload hx hb (dk DX11_layers 52 rfl) (lv_at hl 7 rfl) ?_
                          refine lv_iload hx hb (dk DX11_layers 53 rfl) (lv_at hl 8 rfl) ?_
                          obtain ⟨xq41, mq39, hzq40, hF⟩ := bnd_ex hF
                          refine r_callSi (As := [.int xq10, .int xq20, .int xq26, .int xq33]) (rest := [.ref (G.2.1 + 86)]) C hR (C_M_cell l hl0 G xq10 xq20 xq26 xq33 mq36 _ _ hzq40) (by decide) (by decide) wX11_357 rfl rfl (Nat.le_of_ble_eq_true rfl) hl.1 ⟨Nat.zero_le _, Nat.zero_le _⟩ (dk DX11_layers 54 rfl) (fun H locs hR => ?_)
                          refine lv_aload_n hx hb (dk DX11_layers 55 rfl) rfl (lv_at hl 0 rfl) ?_
                          refine gX11_340 C hR ob78 (dk DX11_layers 56 rfl) ?_
                          obtain ⟨hq43, hF⟩ := ckB_ex hF
                          refine r_iast C hR ob86 hq43 (dk DX11_layers 57 rfl) (fun H locs hR => ?_)
                          obtain ⟨mq42, emq42, hF⟩ := lt_ex hF
                          have hR := Rp_at emq42 hR
                          refine lv_aload_n hx hb (dk DX11_layers 58 rfl) rfl (lv_at hl 0 rfl) ?_
                          refine gX11_43 C hR ob78 rf78_18 (dk DX11_layers 59 rfl) ?_
                          refine lv_iload hx hb (dk DX11_layers 60 rfl) (lv_at hl 4 rfl) ?_
                          refine lv_iload hx hb (dk DX11_layers 61 rfl) (lv_at hl 6 rfl) ?_
                          refine lv_iload hx hb (dk DX11_layers 62 rfl) (lv_at hl 7 rfl) ?_
                          refine lv_iload hx hb (dk DX11_layers 63 rfl) (lv_at hl 8 rfl) ?_
                          obtain ⟨xq46, mq44, hzq45, hF⟩ := bnd_ex hF
                          refine r_callSi (As := [.int xq10, .int xq20, .int xq26, .int xq33]) (rest := [.ref (G.2.1 + 87)]) C hR (C_M_cell l hl0 G xq10 xq20 xq26 xq33 mq42 _ _ hzq45) (by decide) (by decide) wX11_357 rfl rfl (Nat.le_of_ble_eq_true rfl) hl.1 ⟨Nat.zero_le _, Nat.zero_le _⟩ (dk DX11_layers 64 rfl) (fun H locs hR => ?_)
                          refine lv_aload_n hx hb (dk DX11_layers 65 rfl) rfl (lv_at hl 0 rfl) ?_
                          refine gX11_343 C hR ob78 (dk DX11_layers 66 rfl) ?_
                          obtain ⟨hq48, hF⟩ := ckB_ex hF
                          refine r_iast C hR ob87 hq48 (dk DX11_layers 67 rfl) (fun H locs hR => ?_)
                          obtain ⟨mq47, emq47, hF⟩ := lt_ex hF
                          have hR := Rp_at emq47 hR
                          obtain ⟨xq49, exq49, hF⟩ := lt_ex hF
                          refine lv_iinc (v := xq49) (lv' := [(9, .int xq49), (0, .ref (G.2.1 + 78)), (2, .int a2), (3, .int a3), (4, .int xq4), (5, .int xq10), (6, .int xq16), (7, .int xq20), (8, .int xq26)]) hx hb (dk DX11_layers 68 rfl) hl (k := 8) rfl (by rw [exq49]; rfl) (by decide) rfl (fun ls hl => ?_)
                          refine lv_goto (tgt := 71) hx hb (dk DX11_layers 69 rfl) (by decide) ?_
                          exact ihq35 xq49 mq47 _ _ ls (lv_sub hl [1, 2, 3, 4, 5, 6, 7, 8, 0] rfl) hR hF
                    exact L71 1000000 xq29 mq25 _ _ ls (lv_sub hl [1, 2, 3, 4, 5, 6, 7, 8, 0] rfl) hR hF
              exact L59 1000000 (0 : Int32) mq19 _ _ ls (lv_sub hl [1, 2, 3, 4, 5, 6, 7, 0] rfl) hR hF
        exact L51 1000000 (5 : Int32) mq13 _ _ ls (lv_sub hl [2, 3, 4, 5, 6, 1, 0] rfl) hR hF
  exact L19 1000000 xq8 mq5 _ _ ls (lv_sub hl [2, 4, 5, 1, 0] rfl) hR hF
set_option maxHeartbeats 4000000 in
set_option maxRecDepth 100000 in
theorem C_M_kindOf (l : Launch) (hl0 : l.stackTraces = false) (G : GG) (a0 : Int32) (a1 : Bool) (m0 : Mem) (v : Int32) (m' : Mem) (hF : F_M_kindOf a0 a1 m0 = some (v, m')) : Ct l G mr0 N0 yX11_kindOf cX11_kindOf 2 (some .int) 1 [.int a0, .int (b2i a1)] m0 (some (.int v)) m' := by
  refine Ct_of hl0 (by decide) (Nat.le_of_ble_eq_true rfl) ?_
  intro p e s mid args below meth c ls C hrt hl hR
  have hx := C.1.1
  have hb := C.1.2.1
  have hl : lv_has ls 2 [(0, .int a0), (1, .int (b2i a1))] := hl
  unfold F_M_kindOf at hF
  refine lv_iload_n hx hb (dk DX11_kindOf 0 rfl) rfl (lv_at hl 0 rfl) ?_
  refine lv_iconst (v := (2 : Int32)) hx hb (dk DX11_kindOf 1 rfl) (by decide) ?_
  refine lv_icmp_ge (tgt := 9) hx hb (dk DX11_kindOf 2 rfl) (by decide) (fun c2 => ?_) (fun c2 => ?_)
  · have hF := if_t c2 hF
    refine lv_iload_n hx hb (dk DX11_kindOf 5 rfl) rfl (lv_at hl 0 rfl) ?_
    refine lv_iconst (v := (2 : Int32)) hx hb (dk DX11_kindOf 6 rfl) (by decide) ?_
    refine lv_icmp_ne (tgt := 26) hx hb (dk DX11_kindOf 7 rfl) (by decide) (fun c11 => ?_) (fun c11 => ?_)
    · have hF := if_f c11 hF
      refine lv_iload_n hx hb (dk DX11_kindOf 14 rfl) rfl (lv_at hl 1 rfl) ?_
      refine z_ifeq (tgt := 34) hx hb (dk DX11_kindOf 15 rfl) (by decide) (fun c27 => ?_) (fun c27 => ?_)
      · have hF := if_f c27 hF
        refine lv_iconst (v := (4 : Int32)) hx hb (dk DX11_kindOf 18 rfl) (by decide) ?_
        cases hF
        exact r_iret C hrt hR (dk DX11_kindOf 19 rfl)
      · have hF := if_t c27 hF
        refine lv_iconst (v := (5 : Int32)) hx hb (dk DX11_kindOf 16 rfl) (by decide) ?_
        refine lv_goto (tgt := 35) hx hb (dk DX11_kindOf 17 rfl) (by decide) ?_
        cases hF
        exact r_iret C hrt hR (dk DX11_kindOf 19 rfl)
    · have hF := if_t c11 hF
      refine lv_iload_n hx hb (dk DX11_kindOf 8 rfl) rfl (lv_at hl 1 rfl) ?_
      refine z_ifeq (tgt := 22) hx hb (dk DX11_kindOf 9 rfl) (by decide) (fun c15 => ?_) (fun c15 => ?_)
      · have hF := if_f c15 hF
        refine lv_iconst (v := (2 : Int32)) hx hb (dk DX11_kindOf 12 rfl) (by decide) ?_
        refine lv_goto (tgt := 35) hx hb (dk DX11_kindOf 13 rfl) (by decide) ?_
        cases hF
        exact r_iret C hrt hR (dk DX11_kindOf 19 rfl)
      · have hF := if_t c15 hF
        refine lv_iconst (v := (3 : Int32)) hx hb (dk DX11_kindOf 10 rfl) (by decide) ?_
        refine lv_goto (tgt := 35) hx hb (dk DX11_kindOf 11 rfl) (by decide) ?_
        cases hF
        exact r_iret C hrt hR (dk DX11_kindOf 19 rfl)
  · have hF := if_f c2 hF
    refine lv_iload_n hx hb (dk DX11_kindOf 3 rfl) rfl (lv_at hl 0 rfl) ?_
    refine lv_goto (tgt := 35) hx hb (dk DX11_kindOf 4 rfl) (by decide) ?_
    cases hF
    exact r_iret C hrt hR (dk DX11_kindOf 19 rfl)
set_option maxHeartbeats 4000000 in
set_option maxRecDepth 100000 in
theorem C_M_kindNow (l : Launch) (hl0 : l.stackTraces = false) (G : GG) (m0 : Mem) (v : Int32) (m' : Mem) (hF : F_M_kindNow m0 = some (v, m')) : Ct l G mr0 N0 yX11_kindNow cX11_kindNow 1 (some .int) 2 [.ref (G.2.1 + 78)] m0 (some (.int v)) m' := by
  refine Ct_of hl0 (by decide) (Nat.le_of_ble_eq_true rfl) ?_
  intro p e s mid args below meth c ls C hrt hl hR
  have hx := C.1.1
  have hb := C.1.2.1
  have hl : lv_has ls 1 [(0, .ref (G.2.1 + 78))] := hl
  unfold F_M_kindNow at hF
  refine lv_aload_n hx hb (dk DX11_kindNow 0 rfl) rfl (lv_at hl 0 rfl) ?_
  refine gX11_13 C hR ob78 rf78_1 (dk DX11_kindNow 1 rfl) ?_
  refine lv_bipush (v := (11 : Int32)) hx hb (dk DX11_kindNow 2 rfl) (by decide) ?_
  refine r_iald C hR ob79 rfl (dk DX11_kindNow 3 rfl) ?_
  refine lv_aload_n hx hb (dk DX11_kindNow 4 rfl) rfl (lv_at hl 0 rfl) ?_
  obtain ⟨zq3, mq1, hzq2, hF⟩ := bnd_ex hF
  refine r_callVi (As := []) (rest := [.int (gI m0 79 11)]) C hR (C_M_isFollowed l hl0 G m0 _ _ hzq2) (by decide) (by decide) ob78 rfl wX11_268 rfl rfl (Nat.le_of_ble_eq_true rfl) hl.1 ⟨Nat.zero_le _, Nat.zero_le _⟩ (dk DX11_kindNow 5 rfl) (fun H locs hR => ?_)
  obtain ⟨xq6, mq4, hzq5, hF⟩ := bnd_ex hF
  refine r_callSi (As := [.int (gI m0 79 11), .int (b2i zq3)]) (rest := []) C hR (C_M_kindOf l hl0 G (gI m0 79 11) zq3 mq1 _ _ hzq5) (by decide) (by decide) wX11_406 rfl rfl (Nat.le_of_ble_eq_true rfl) hl.1 ⟨Nat.zero_le _, Nat.zero_le _⟩ (dk DX11_kindNow 6 rfl) (fun H locs hR => ?_)
  cases hF
  exact r_iret C hrt hR (dk DX11_kindNow 7 rfl)
set_option maxHeartbeats 4000000 in
set_option maxRecDepth 100000 in
theorem C_M_outNow (l : Launch) (hl0 : l.stackTraces = false) (G : GG) (m0 : Mem) (v : Int32) (m' : Mem) (hF : F_M_outNow m0 = some (v, m')) : Ct l G mr0 N0 yX11_outNow cX11_outNow 1 (some .int) 1 [.ref (G.2.1 + 78)] m0 (some (.int v)) m' := by
  refine Ct_of hl0 (by decide) (Nat.le_of_ble_eq_true rfl) ?_
  intro p e s mid args below meth c ls C hrt hl hR
  have hx := C.1.1
  have hb := C.1.2.1
  have hl : lv_has ls 1 [(0, .ref (G.2.1 + 78))] := hl
  unfold F_M_outNow at hF
  refine lv_aload_n hx hb (dk DX11_outNow 0 rfl) rfl (lv_at hl 0 rfl) ?_
  refine gX11_13 C hR ob78 rf78_1 (dk DX11_outNow 1 rfl) ?_
  refine lv_bipush (v := (14 : Int32)) hx hb (dk DX11_outNow 2 rfl) (by decide) ?_
  refine r_iald C hR ob79 rfl (dk DX11_outNow 3 rfl) ?_
  refine lv_iconst (v := (1 : Int32)) hx hb (dk DX11_outNow 4 rfl) (by decide) ?_
  refine lv_icmp_ne (tgt := 16) hx hb (dk DX11_outNow 5 rfl) (by decide) (fun c8 => ?_) (fun c8 => ?_)
  · have hF := if_f c8 hF
    refine lv_aload_n hx hb (dk DX11_outNow 8 rfl) rfl (lv_at hl 0 rfl) ?_
    refine gX11_13 C hR ob78 rf78_1 (dk DX11_outNow 9 rfl) ?_
    refine lv_bipush (v := (13 : Int32)) hx hb (dk DX11_outNow 10 rfl) (by decide) ?_
    refine r_iald C hR ob79 rfl (dk DX11_outNow 11 rfl) ?_
    cases hF
    exact r_iret C hrt hR (dk DX11_outNow 12 rfl)
  · have hF := if_t c8 hF
    refine lv_bipush (v := (10 : Int32)) hx hb (dk DX11_outNow 6 rfl) (by decide) ?_
    refine lv_goto (tgt := 23) hx hb (dk DX11_outNow 7 rfl) (by decide) ?_
    cases hF
    exact r_iret C hrt hR (dk DX11_outNow 12 rfl)
set_option maxHeartbeats 4000000 in
set_option maxRecDepth 100000 in
theorem C_M_countsAfter (l : Launch) (hl0 : l.stackTraces = false) (G : GG) (a1 : Int32) (m0 : Mem) (v : Unit) (m' : Mem) (hF : F_M_countsAfter a1 m0 = some (v, m')) : Ct l G mr0 N0 yX11_countsAfter cX11_countsAfter 4 none 10 [.ref (G.2.1 + 78), .int a1] m0 none m' := by
  refine Ct_of hl0 (by decide) (Nat.le_of_ble_eq_true rfl) ?_
  intro p e s mid args below meth c ls C hrt hl hR
  have hx := C.1.1
  have hb := C.1.2.1
  have hl : lv_has ls 4 [(0, .ref (G.2.1 + 78)), (1, .int a1)] := hl
  unfold F_M_countsAfter at hF
  refine lv_aload_n hx hb (dk DX11_countsAfter 0 rfl) rfl (lv_at hl 0 rfl) ?_
  obtain ⟨xq3, mq1, hzq2, hF⟩ := bnd_ex hF
  refine r_callVi (As := []) (rest := []) C hR (C_M_played l hl0 G m0 _ _ hzq2) (by decide) (by decide) ob78 rfl wX11_288 rfl rfl (Nat.le_of_ble_eq_true rfl) hl.1 ⟨Nat.zero_le _, Nat.zero_le _⟩ (dk DX11_countsAfter 1 rfl) (fun H locs hR => ?_)
  refine lv_istore_n (lv' := [(2, .int xq3), (0, .ref (G.2.1 + 78)), (1, .int a1)]) hx hb (dk DX11_countsAfter 2 rfl) rfl hl (by decide) rfl (fun ls hl => ?_)
  refine lv_aload_n hx hb (dk DX11_countsAfter 3 rfl) rfl (lv_at hl 1 rfl) ?_
  refine lv_aload_n hx hb (dk DX11_countsAfter 4 rfl) rfl (lv_at hl 1 rfl) ?_
  obtain ⟨xq6, mq4, hzq5, hF⟩ := bnd_ex hF
  refine r_callVi (As := []) (rest := [.ref (G.2.1 + 78)]) C hR (C_M_batter l hl0 G mq1 _ _ hzq5) (by decide) (by decide) ob78 rfl wX11_285 rfl rfl (Nat.le_of_ble_eq_true rfl) hl.1 ⟨Nat.zero_le _, Nat.zero_le _⟩ (dk DX11_countsAfter 5 rfl) (fun H locs hR => ?_)
  obtain ⟨xq9, mq7, hzq8, hF⟩ := bnd_ex hF
  refine r_callVi (As := [.int xq6]) (rest := []) C hR (C_M_leadOf l hl0 G xq6 mq4 _ _ hzq8) (by decide) (by decide) ob78 rfl wX11_281 rfl rfl (Nat.le_of_ble_eq_true rfl) hl.1 ⟨Nat.zero_le _, Nat.zero_le _⟩ (dk DX11_countsAfter 6 rfl) (fun H locs hR => ?_)
  refine lv_istore_n (lv' := [(3, .int xq9), (2, .int xq3), (0, .ref (G.2.1 + 78)), (1, .int a1)]) hx hb (dk DX11_countsAfter 7 rfl) rfl hl (by decide) rfl (fun ls hl => ?_)
  refine lv_aload_n hx hb (dk DX11_countsAfter 8 rfl) rfl (lv_at hl 2 rfl) ?_
  refine lv_aload_n hx hb (dk DX11_countsAfter 9 rfl) rfl (lv_at hl 2 rfl) ?_
  refine gX11_13 C hR ob78 rf78_1 (dk DX11_countsAfter 10 rfl) ?_
  refine lv_iconst (v := (2 : Int32)) hx hb (dk DX11_countsAfter 11 rfl) (by decide) ?_
  refine r_iald C hR ob79 rfl (dk DX11_countsAfter 12 rfl) ?_
  refine pX11_334 (x := gI mq7 79 2) C hR ob78 (dk DX11_countsAfter 13 rfl) (fun H locs hR => ?_)
  obtain ⟨mq10, emq10, hF⟩ := lt_ex hF
  have hR := Rp_at emq10 hR
  refine lv_aload_n hx hb (dk DX11_countsAfter 14 rfl) rfl (lv_at hl 2 rfl) ?_
  refine lv_aload_n hx hb (dk DX11_countsAfter 15 rfl) rfl (lv_at hl 2 rfl) ?_
  obtain ⟨xq13, mq11, hzq12, hF⟩ := bnd_ex hF
  refine r_callVi (As := []) (rest := [.ref (G.2.1 + 78)]) C hR (C_M_firstSide l hl0 G mq10 _ _ hzq12) (by decide) (by decide) ob78 rfl wX11_265 rfl rfl (Nat.le_of_ble_eq_true rfl) hl.1 ⟨Nat.zero_le _, Nat.zero_le _⟩ (dk DX11_countsAfter 16 rfl) (fun H locs hR => ?_)
  refine lv_iload_n hx hb (dk DX11_countsAfter 17 rfl) rfl (lv_at hl 1 rfl) ?_
  refine lv_iconst (v := (1 : Int32)) hx hb (dk DX11_countsAfter 18 rfl) (by decide) ?_
  refine lv_iadd hx hb (dk DX11_countsAfter 19 rfl) ?_
  refine lv_iload_n hx hb (dk DX11_countsAfter 20 rfl) rfl (lv_at hl 0 rfl) ?_
  refine r_abI C (gd q2066 rfl) (by decide) (Nat.le_of_ble_eq_true rfl) hl.1 ⟨Nat.zero_le _, Nat.zero_le _⟩ (dk DX11_countsAfter 21 rfl) ?_
  refine lv_aload_n hx hb (dk DX11_countsAfter 22 rfl) rfl (lv_at hl 2 rfl) ?_
  obtain ⟨xq16, mq14, hzq15, hF⟩ := bnd_ex hF
  refine r_callVi (As := []) (rest := [.int (abI xq9), .int (xq3 + (1 : Int32)), .int xq13, .ref (G.2.1 + 78)]) C hR (C_M_mostRuns l hl0 G mq11 _ _ hzq15) (by decide) (by decide) ob78 rfl wX11_396 rfl rfl (Nat.le_of_ble_eq_true rfl) hl.1 ⟨Nat.zero_le _, Nat.zero_le _⟩ (dk DX11_countsAfter 23 rfl) (fun H locs hR => ?_)
  refine lv_iadd hx hb (dk DX11_countsAfter 24 rfl) ?_
  obtain ⟨uq19, mq17, hzq18, hF⟩ := bnd_ex hF
  refine r_callVv (As := [.int xq13, .int (xq3 + (1 : Int32)), .int ((abI xq9) + xq16)]) (rest := []) C hR (C_M_layers l hl0 G xq13 (xq3 + (1 : Int32)) ((abI xq9) + xq16) mq14 _ _ hzq18) (by decide) (by decide) ob78 rfl wX11_412 rfl rfl (Nat.le_of_ble_eq_true rfl) hl.1 ⟨Nat.zero_le _, Nat.zero_le _⟩ (dk DX11_countsAfter 25 rfl) (fun H locs hR => ?_)
  refine lv_aload_n hx hb (dk DX11_countsAfter 26 rfl) rfl (lv_at hl 2 rfl) ?_
  refine lv_iload_n hx hb (dk DX11_countsAfter 27 rfl) rfl (lv_at hl 1 rfl) ?_
  obtain ⟨uq22, mq20, hzq21, hF⟩ := bnd_ex hF
  refine r_callVv (As := [.int xq3]) (rest := []) C hR (C_M_laysLevels l hl0 G xq3 mq17 _ _ hzq21) (by decide) (by decide) ob78 rfl wX11_399 rfl rfl (Nat.le_of_ble_eq_true rfl) hl.1 ⟨Nat.zero_le _, Nat.zero_le _⟩ (dk DX11_countsAfter 28 rfl) (fun H locs hR => ?_)
  refine lv_aload_n hx hb (dk DX11_countsAfter 29 rfl) rfl (lv_at hl 2 rfl) ?_
  refine lv_iconst (v := (0 : Int32)) hx hb (dk DX11_countsAfter 30 rfl) (by decide) ?_
  refine pX11_340 (x := (0 : Int32)) C hR ob78 (dk DX11_countsAfter 31 rfl) (fun H locs hR => ?_)
  obtain ⟨mq23, emq23, hF⟩ := lt_ex hF
  have hR := Rp_at emq23 hR
  refine lv_aload_n hx hb (dk DX11_countsAfter 32 rfl) rfl (lv_at hl 2 rfl) ?_
  refine lv_iconst (v := (0 : Int32)) hx hb (dk DX11_countsAfter 33 rfl) (by decide) ?_
  refine pX11_343 (x := (0 : Int32)) C hR ob78 (dk DX11_countsAfter 34 rfl) (fun H locs hR => ?_)
  obtain ⟨mq24, emq24, hF⟩ := lt_ex hF
  have hR := Rp_at emq24 hR
  refine lv_aload_n hx hb (dk DX11_countsAfter 35 rfl) rfl (lv_at hl 2 rfl) ?_
  refine lv_iload_n hx hb (dk DX11_countsAfter 36 rfl) rfl (lv_at hl 1 rfl) ?_
  refine lv_aload_n hx hb (dk DX11_countsAfter 37 rfl) rfl (lv_at hl 2 rfl) ?_
  obtain ⟨xq27, mq25, hzq26, hF⟩ := bnd_ex hF
  refine r_callVi (As := []) (rest := [.int xq3, .ref (G.2.1 + 78)]) C hR (C_M_kindNow l hl0 G mq24 _ _ hzq26) (by decide) (by decide) ob78 rfl wX11_415 rfl rfl (Nat.le_of_ble_eq_true rfl) hl.1 ⟨Nat.zero_le _, Nat.zero_le _⟩ (dk DX11_countsAfter 38 rfl) (fun H locs hR => ?_)
  refine lv_aload_n hx hb (dk DX11_countsAfter 39 rfl) rfl (lv_at hl 2 rfl) ?_
  obtain ⟨xq30, mq28, hzq29, hF⟩ := bnd_ex hF
  refine r_callVi (As := []) (rest := [.int xq27, .int xq3, .ref (G.2.1 + 78)]) C hR (C_M_outNow l hl0 G mq25 _ _ hzq29) (by decide) (by decide) ob78 rfl wX11_418 rfl rfl (Nat.le_of_ble_eq_true rfl) hl.1 ⟨Nat.zero_le _, Nat.zero_le _⟩ (dk DX11_countsAfter 40 rfl) (fun H locs hR => ?_)
  refine lv_iload_n hx hb (dk DX11_countsAfter 41 rfl) rfl (lv_at hl 0 rfl) ?_
  refine lv_iload_n hx hb (dk DX11_countsAfter 42 rfl) rfl (lv_at hl 3 rfl) ?_
  refine lv_iconst (v := (0 : Int32)) hx hb (dk DX11_countsAfter 43 rfl) (by decide) ?_
  obtain ⟨uq33, mq31, hzq32, hF⟩ := bnd_ex hF
  refine r_callVv (As := [.int xq3, .int xq27, .int xq30, .int xq9, .int a1, .int (b2i false)]) (rest := []) C hR (C_M_brings l hl0 G xq3 xq27 xq30 xq9 a1 false mq28 _ _ hzq32) (by decide) (by decide) ob78 rfl wX11_364 rfl rfl (Nat.le_of_ble_eq_true rfl) hl.1 ⟨Nat.zero_le _, Nat.zero_le _⟩ (dk DX11_countsAfter 44 rfl) (fun H locs hR => ?_)
  cases hF
  exact r_vret C hrt hR (dk DX11_countsAfter 45 rfl)
set_option maxHeartbeats 4000000 in
set_option maxRecDepth 100000 in
theorem C_M_waysOf (l : Launch) (hl0 : l.stackTraces = false) (G : GG) (a1 : Int32) (a2 : Int32) (a3 : Int32) (m0 : Mem) (v : Int64) (m' : Mem) (hF : F_M_waysOf a1 a2 a3 m0 = some (v, m')) : Ct l G mr0 N0 yX11_waysOf cX11_waysOf 6 (some .long) 3 [.ref (G.2.1 + 78), .int a1, .int a2, .int a3] m0 (some (.long v)) m' := by
  refine Ct_of hl0 (by decide) (Nat.le_of_ble_eq_true rfl) ?_
  intro p e s mid args below meth c ls C hrt hl hR
  have hx := C.1.1
  have hb := C.1.2.1
  have hl : lv_has ls 6 [(0, .ref (G.2.1 + 78)), (1, .int a1), (2, .int a2), (3, .int a3)] := hl
  unfold F_M_waysOf at hF
  refine lv_iload_n hx hb (dk DX11_waysOf 0 rfl) rfl (lv_at hl 3 rfl) ?_
  obtain ⟨k15_2, ek15_2, hF⟩ := lt_ex hF
  have J15 : ∀ (xq2 : Int32) (mq1 : Mem) (H : Heap) (locs : List Loc) (ls : Array Slot), lv_has ls 6 [(0, .ref (G.2.1 + 78)), (1, .int a1), (2, .int a2), (3, .int a3)] → Rp G mr0 N0 mq1 s H locs → k15_2 xq2 mq1 = some (v, m') → W p l e (rmD 3) s mid args below meth c H locs 0 0 (MQ below (QR G mr0 N0 (some (.long v)) m') args s 0 0 (fun q => G.2.1 ≤ q)) (F0 mid 15 ls [.int xq2]) := by
    intro xq2 mq1 H locs ls hl hR hF
    rw [ek15_2] at hF
    refine lv_istore (lv' := [(4, .int xq2), (0, .ref (G.2.1 + 78)), (1, .int a1), (2, .int a2), (3, .int a3)]) hx hb (dk DX11_waysOf 7 rfl) hl (by decide) rfl (fun ls hl => ?_)
    refine lv_iload_n hx hb (dk DX11_waysOf 8 rfl) rfl (lv_at hl 4 rfl) ?_
    obtain ⟨k32_4, ek32_4, hF⟩ := lt_ex hF
    have J32 : ∀ (xq4 : Int32) (mq3 : Mem) (H : Heap) (locs : List Loc) (ls : Array Slot), lv_has ls 6 [(0, .ref (G.2.1 + 78)), (1, .int a1), (2, .int a2), (4, .int xq2)] → Rp G mr0 N0 mq3 s H locs → k32_4 xq4 mq3 = some (v, m') → W p l e (rmD 3) s mid args below meth c H locs 0 0 (MQ below (QR G mr0 N0 (some (.long v)) m') args s 0 0 (fun q => G.2.1 ≤ q)) (F0 mid 32 ls [.int xq4]) := by
      intro xq4 mq3 H locs ls hl hR hF
      rw [ek32_4] at hF
      refine lv_istore (lv' := [(5, .int xq4), (0, .ref (G.2.1 + 78)), (1, .int a1), (2, .int a2), (4, .int xq2)]) hx hb (dk DX11_waysOf 15 rfl) hl (by decide) rfl (fun ls hl => ?_)
      refine lv_iload_n hx hb (dk DX11_waysOf 16 rfl) rfl (lv_at hl 2 rfl) ?_
      refine lv_if_ne (tgt := 44) hx hb (dk DX11_waysOf 17 rfl) (by decide) (fun c35 => ?_) (fun c35 => ?_)
      · have hF := if_f c35 hF
        refine lv_iload_n hx hb (dk DX11_waysOf 21 rfl) rfl (lv_at hl 2 rfl) ?_
        refine lv_iconst (v := (1 : Int32)) hx hb (dk DX11_waysOf 22 rfl) (by decide) ?_
        refine lv_icmp_ne (tgt := 55) hx hb (dk DX11_waysOf 23 rfl) (by decide) (fun c46 => ?_) (fun c46 => ?_)
        · have hF := if_f c46 hF
          refine lv_iload_n hx hb (dk DX11_waysOf 27 rfl) rfl (lv_at hl 2 rfl) ?_
          refine lv_iconst (v := (2 : Int32)) hx hb (dk DX11_waysOf 28 rfl) (by decide) ?_
          refine lv_icmp_ne (tgt := 75) hx hb (dk DX11_waysOf 29 rfl) (by decide) (fun c57 => ?_) (fun c57 => ?_)
          · have hF := if_f c57 hF
            refine lv_aload_n hx hb (dk DX11_waysOf 39 rfl) rfl (lv_at hl 1 rfl) ?_
            refine lv_iload_n hx hb (dk DX11_waysOf 40 rfl) rfl (lv_at hl 3 rfl) ?_
            obtain ⟨xq7, mq5, hzq6, hF⟩ := bnd_ex hF
            refine r_callVi (As := [.int a2]) (rest := []) C hR (C_M_all l hl0 G a2 mq3 _ _ hzq6) (by decide) (by decide) ob78 rfl wX11_337 rfl rfl (Nat.le_of_ble_eq_true rfl) hl.1 ⟨Nat.zero_le _, Nat.zero_le _⟩ (dk DX11_waysOf 41 rfl) (fun H locs hR => ?_)
            refine lv_i2l hx hb (dk DX11_waysOf 42 rfl) rfl ?_
            cases hF
            exact r_lret C hrt hR (dk DX11_waysOf 43 rfl)
          · have hF := if_t c57 hF
            refine lv_aload_n hx hb (dk DX11_waysOf 30 rfl) rfl (lv_at hl 1 rfl) ?_
            refine lv_iload_n hx hb (dk DX11_waysOf 31 rfl) rfl (lv_at hl 3 rfl) ?_
            obtain ⟨xq10, mq8, hzq9, hF⟩ := bnd_ex hF
            refine r_callVi (As := [.int a2]) (rest := []) C hR (C_M_all l hl0 G a2 mq3 _ _ hzq9) (by decide) (by decide) ob78 rfl wX11_337 rfl rfl (Nat.le_of_ble_eq_true rfl) hl.1 ⟨Nat.zero_le _, Nat.zero_le _⟩ (dk DX11_waysOf 32 rfl) (fun H locs hR => ?_)
            refine lv_iload hx hb (dk DX11_waysOf 33 rfl) (lv_at hl 4 rfl) ?_
            refine lv_isub hx hb (dk DX11_waysOf 34 rfl) ?_
            refine lv_iload hx hb (dk DX11_waysOf 35 rfl) (lv_at hl 0 rfl) ?_
            refine lv_isub hx hb (dk DX11_waysOf 36 rfl) ?_
            refine lv_i2l hx hb (dk DX11_waysOf 37 rfl) rfl ?_
            refine lv_goto (tgt := 81) hx hb (dk DX11_waysOf 38 rfl) (by decide) ?_
            cases hF
            exact r_lret C hrt hR (dk DX11_waysOf 43 rfl)
        · have hF := if_t c46 hF
          refine lv_iload hx hb (dk DX11_waysOf 24 rfl) (lv_at hl 0 rfl) ?_
          refine lv_i2l hx hb (dk DX11_waysOf 25 rfl) rfl ?_
          refine lv_goto (tgt := 81) hx hb (dk DX11_waysOf 26 rfl) (by decide) ?_
          cases hF
          exact r_lret C hrt hR (dk DX11_waysOf 43 rfl)
      · have hF := if_t c35 hF
        refine lv_iload hx hb (dk DX11_waysOf 18 rfl) (lv_at hl 4 rfl) ?_
        refine lv_i2l hx hb (dk DX11_waysOf 19 rfl) rfl ?_
        refine lv_goto (tgt := 81) hx hb (dk DX11_waysOf 20 rfl) (by decide) ?_
        cases hF
        exact r_lret C hrt hR (dk DX11_waysOf 43 rfl)
    refine lv_if_ne (tgt := 28) hx hb (dk DX11_waysOf 9 rfl) (by decide) (fun c18 => ?_) (fun c18 => ?_)
    · have hF := if_f c18 hF
      refine lv_aload_n hx hb (dk DX11_waysOf 13 rfl) rfl (lv_at hl 1 rfl) ?_
      refine gX11_340 C hR ob78 (dk DX11_waysOf 14 rfl) ?_
      exact J32 (gI mq1 78 23) mq1 _ _ ls (lv_sub hl [1, 2, 3, 0] rfl) hR hF
    · have hF := if_t c18 hF
      refine lv_aload_n hx hb (dk DX11_waysOf 10 rfl) rfl (lv_at hl 1 rfl) ?_
      refine gX11_343 C hR ob78 (dk DX11_waysOf 11 rfl) ?_
      refine lv_goto (tgt := 32) hx hb (dk DX11_waysOf 12 rfl) (by decide) ?_
      exact J32 (gI mq1 78 24) mq1 _ _ ls (lv_sub hl [1, 2, 3, 0] rfl) hR hF
  refine lv_if_ne (tgt := 11) hx hb (dk DX11_waysOf 1 rfl) (by decide) (fun c1 => ?_) (fun c1 => ?_)
  · have hF := if_f c1 hF
    refine lv_aload_n hx hb (dk DX11_waysOf 5 rfl) rfl (lv_at hl 0 rfl) ?_
    refine gX11_343 C hR ob78 (dk DX11_waysOf 6 rfl) ?_
    exact J15 (gI m0 78 24) m0 _ _ ls (lv_sub hl [0, 1, 2, 3] rfl) hR hF
  · have hF := if_t c1 hF
    refine lv_aload_n hx hb (dk DX11_waysOf 2 rfl) rfl (lv_at hl 0 rfl) ?_
    refine gX11_340 C hR ob78 (dk DX11_waysOf 3 rfl) ?_
    refine lv_goto (tgt := 15) hx hb (dk DX11_waysOf 4 rfl) (by decide) ?_
    exact J15 (gI m0 78 23) m0 _ _ ls (lv_sub hl [0, 1, 2, 3] rfl) hR hF
set_option maxHeartbeats 4000000 in
set_option maxRecDepth 100000 in
theorem C_M_after_IIJ (l : Launch) (hl0 : l.stackTraces = false) (G : GG) (a1 : Int32) (a2 : Int32) (m0 : Mem) (v : Int64) (m' : Mem) (hF : F_M_after_IIJ a1 a2 m0 = some (v, m')) : Ct l G mr0 N0 yX11_after_ cX11_after_ 3 (some .long) 11 [.ref (G.2.1 + 78), .int a1, .int a2] m0 (some (.long v)) m' := by
  refine Ct_of hl0 (by decide) (Nat.le_of_ble_eq_true rfl) ?_
  intro p e s mid args below meth c ls C hrt hl hR
  have hx := C.1.1
  have hb := C.1.2.1
  have hl : lv_has ls 3 [(0, .ref (G.2.1 + 78)), (1, .int a1), (2, .int a2)] := hl
  unfold F_M_after_IIJ at hF
  refine lv_aload_n hx hb (dk DX11_after_ 0 rfl) rfl (lv_at hl 0 rfl) ?_
  refine lv_iconst (v := (0 : Int32)) hx hb (dk DX11_after_ 1 rfl) (by decide) ?_
  refine pX11_3 (x := (0 : Int32)) C hR ob78 (dk DX11_after_ 2 rfl) (fun H locs hR => ?_)
  obtain ⟨mq1, emq1, hF⟩ := lt_ex hF
  have hR := Rp_at emq1 hR
  refine lv_aload_n hx hb (dk DX11_after_ 3 rfl) rfl (lv_at hl 0 rfl) ?_
  refine lv_iload_n hx hb (dk DX11_after_ 4 rfl) rfl (lv_at hl 1 rfl) ?_
  obtain ⟨zq4, mq2, hzq3, hF⟩ := bnd_ex hF
  refine r_callSi (As := [.int a1]) (rest := [.ref (G.2.1 + 78)]) C hR (C_M_noSlot l hl0 G a1 mq1 _ _ hzq3) (by decide) (by decide) wX11_246 rfl rfl (Nat.le_of_ble_eq_true rfl) hl.1 ⟨Nat.zero_le _, Nat.zero_le _⟩ (dk DX11_after_ 5 rfl) (fun H locs hR => ?_)
  refine lv_iconst (v := (1 : Int32)) hx hb (dk DX11_after_ 6 rfl) (by decide) ?_
  obtain ⟨zq7, mq5, hzq6, hF⟩ := bnd_ex hF
  refine r_callVi (As := [.int (b2i zq4), .int (1 : Int32)]) (rest := []) C hR (C_M_throwsIf l hl0 G zq4 (1 : Int32) mq2 _ _ hzq6) (by decide) (by decide) ob78 rfl wX11_227 rfl rfl (Nat.le_of_ble_eq_true rfl) hl.1 ⟨Nat.zero_le _, Nat.zero_le _⟩ (dk DX11_after_ 7 rfl) (fun H locs hR => ?_)
  refine z_ifne (tgt := 59) hx hb (dk DX11_after_ 8 rfl) (by decide) (fun c14 => ?_) (fun c14 => ?_)
  · have hF := if_t c14 hF
    refine lv_lconst (v := (0 : Int64)) hx hb (dk DX11_after_ 31 rfl) (by decide) ?_
    cases hF
    exact r_lret C hrt hR (dk DX11_after_ 32 rfl)
  · have hF := if_f c14 hF
    refine lv_aload_n hx hb (dk DX11_after_ 9 rfl) rfl (lv_at hl 0 rfl) ?_
    refine lv_aload_n hx hb (dk DX11_after_ 10 rfl) rfl (lv_at hl 0 rfl) ?_
    obtain ⟨zq10, mq8, hzq9, hF⟩ := bnd_ex hF
    refine r_callVi (As := []) (rest := [.ref (G.2.1 + 78)]) C hR (C_M_isOn l hl0 G mq5 _ _ hzq9) (by decide) (by decide) ob78 rfl wX11_278 rfl rfl (Nat.le_of_ble_eq_true rfl) hl.1 ⟨Nat.zero_le _, Nat.zero_le _⟩ (dk DX11_after_ 11 rfl) (fun H locs hR => ?_)
    obtain ⟨k30_12, ek30_12, hF⟩ := lt_ex hF
    have J30 : ∀ (zq12 : Bool) (mq11 : Mem) (H : Heap) (locs : List Loc) (ls : Array Slot), lv_has ls 3 [(0, .ref (G.2.1 + 78)), (1, .int a1), (2, .int a2)] → Rp G mr0 N0 mq11 s H locs → k30_12 zq12 mq11 = some (v, m') → W p l e (rmD 11) s mid args below meth c H locs 0 0 (MQ below (QR G mr0 N0 (some (.long v)) m') args s 0 0 (fun q => G.2.1 ≤ q)) (F0 mid 30 ls [.int (b2i zq12), .ref (G.2.1 + 78)]) := by
      intro zq12 mq11 H locs ls hl hR hF
      rw [ek30_12] at hF
      refine lv_iconst (v := (2 : Int32)) hx hb (dk DX11_after_ 16 rfl) (by decide) ?_
      obtain ⟨zq15, mq13, hzq14, hF⟩ := bnd_ex hF
      refine r_callVi (As := [.int (b2i zq12), .int (2 : Int32)]) (rest := []) C hR (C_M_throwsIf l hl0 G zq12 (2 : Int32) mq11 _ _ hzq14) (by decide) (by decide) ob78 rfl wX11_227 rfl rfl (Nat.le_of_ble_eq_true rfl) hl.1 ⟨Nat.zero_le _, Nat.zero_le _⟩ (dk DX11_after_ 17 rfl) (fun H locs hR => ?_)
      refine z_ifne (tgt := 59) hx hb (dk DX11_after_ 18 rfl) (by decide) (fun c34 => ?_) (fun c34 => ?_)
      · have hF := if_t c34 hF
        refine lv_lconst (v := (0 : Int64)) hx hb (dk DX11_after_ 31 rfl) (by decide) ?_
        cases hF
        exact r_lret C hrt hR (dk DX11_after_ 32 rfl)
      · have hF := if_f c34 hF
        refine lv_aload_n hx hb (dk DX11_after_ 19 rfl) rfl (lv_at hl 0 rfl) ?_
        refine lv_iload_n hx hb (dk DX11_after_ 20 rfl) rfl (lv_at hl 2 rfl) ?_
        refine lv_iconst (v := (0 : Int32)) hx hb (dk DX11_after_ 21 rfl) (by decide) ?_
        refine lv_iconst (v := (3 : Int32)) hx hb (dk DX11_after_ 22 rfl) (by decide) ?_
        obtain ⟨zq18, mq16, hzq17, hF⟩ := bnd_ex hF
        refine r_callSi (As := [.int a2, .int (0 : Int32), .int (3 : Int32)]) (rest := [.ref (G.2.1 + 78)]) C hR (C_M_in l hl0 G a2 (0 : Int32) (3 : Int32) mq13 _ _ hzq17) (by decide) (by decide) wX11_67 rfl rfl (Nat.le_of_ble_eq_true rfl) hl.1 ⟨Nat.zero_le _, Nat.zero_le _⟩ (dk DX11_after_ 23 rfl) (fun H locs hR => ?_)
        obtain ⟨k52_20, ek52_20, hF⟩ := lt_ex hF
        have J52 : ∀ (zq20 : Bool) (mq19 : Mem) (H : Heap) (locs : List Loc) (ls : Array Slot), lv_has ls 3 [(0, .ref (G.2.1 + 78)), (1, .int a1), (2, .int a2)] → Rp G mr0 N0 mq19 s H locs → k52_20 zq20 mq19 = some (v, m') → W p l e (rmD 11) s mid args below meth c H locs 0 0 (MQ below (QR G mr0 N0 (some (.long v)) m') args s 0 0 (fun q => G.2.1 ≤ q)) (F0 mid 52 ls [.int (b2i zq20), .ref (G.2.1 + 78)]) := by
          intro zq20 mq19 H locs ls hl hR hF
          rw [ek52_20] at hF
          refine lv_iconst (v := (3 : Int32)) hx hb (dk DX11_after_ 28 rfl) (by decide) ?_
          obtain ⟨zq23, mq21, hzq22, hF⟩ := bnd_ex hF
          refine r_callVi (As := [.int (b2i zq20), .int (3 : Int32)]) (rest := []) C hR (C_M_throwsIf l hl0 G zq20 (3 : Int32) mq19 _ _ hzq22) (by decide) (by decide) ob78 rfl wX11_227 rfl rfl (Nat.le_of_ble_eq_true rfl) hl.1 ⟨Nat.zero_le _, Nat.zero_le _⟩ (dk DX11_after_ 29 rfl) (fun H locs hR => ?_)
          refine z_ifeq (tgt := 61) hx hb (dk DX11_after_ 30 rfl) (by decide) (fun c56 => ?_) (fun c56 => ?_)
          · have hF := if_f c56 hF
            refine lv_aload_n hx hb (dk DX11_after_ 33 rfl) rfl (lv_at hl 0 rfl) ?_
            refine lv_iload_n hx hb (dk DX11_after_ 34 rfl) rfl (lv_at hl 1 rfl) ?_
            obtain ⟨uq26, mq24, hzq25, hF⟩ := bnd_ex hF
            refine r_callVv (As := [.int a1]) (rest := []) C hR (C_M_countsAfter l hl0 G a1 mq21 _ _ hzq25) (by decide) (by decide) ob78 rfl wX11_449 rfl rfl (Nat.le_of_ble_eq_true rfl) hl.1 ⟨Nat.zero_le _, Nat.zero_le _⟩ (dk DX11_after_ 35 rfl) (fun H locs hR => ?_)
            refine lv_aload_n hx hb (dk DX11_after_ 36 rfl) rfl (lv_at hl 0 rfl) ?_
            refine lv_iload_n hx hb (dk DX11_after_ 37 rfl) rfl (lv_at hl 2 rfl) ?_
            refine lv_aload_n hx hb (dk DX11_after_ 38 rfl) rfl (lv_at hl 0 rfl) ?_
            obtain ⟨xq29, mq27, hzq28, hF⟩ := bnd_ex hF
            refine r_callVi (As := []) (rest := [.int a2, .ref (G.2.1 + 78)]) C hR (C_M_played l hl0 G mq24 _ _ hzq28) (by decide) (by decide) ob78 rfl wX11_288 rfl rfl (Nat.le_of_ble_eq_true rfl) hl.1 ⟨Nat.zero_le _, Nat.zero_le _⟩ (dk DX11_after_ 39 rfl) (fun H locs hR => ?_)
            refine lv_iconst (v := (1 : Int32)) hx hb (dk DX11_after_ 40 rfl) (by decide) ?_
            refine lv_iadd hx hb (dk DX11_after_ 41 rfl) ?_
            refine lv_aload_n hx hb (dk DX11_after_ 42 rfl) rfl (lv_at hl 0 rfl) ?_
            obtain ⟨xq32, mq30, hzq31, hF⟩ := bnd_ex hF
            refine r_callVi (As := []) (rest := [.int (xq29 + (1 : Int32)), .int a2, .ref (G.2.1 + 78)]) C hR (C_M_batter l hl0 G mq27 _ _ hzq31) (by decide) (by decide) ob78 rfl wX11_285 rfl rfl (Nat.le_of_ble_eq_true rfl) hl.1 ⟨Nat.zero_le _, Nat.zero_le _⟩ (dk DX11_after_ 43 rfl) (fun H locs hR => ?_)
            obtain ⟨yq35, mq33, hzq34, hF⟩ := bnd_ex hF
            refine r_callVl (As := [.int a2, .int (xq29 + (1 : Int32)), .int xq32]) (rest := []) C hR (C_M_waysOf l hl0 G a2 (xq29 + (1 : Int32)) xq32 mq30 _ _ hzq34) (by decide) (by decide) ob78 rfl wX11_427 rfl rfl (Nat.le_of_ble_eq_true rfl) hl.1 ⟨Nat.zero_le _, Nat.zero_le _⟩ (dk DX11_after_ 44 rfl) (fun H locs hR => ?_)
            cases hF
            exact r_lret C hrt hR (dk DX11_after_ 45 rfl)
          · have hF := if_t c56 hF
            refine lv_lconst (v := (0 : Int64)) hx hb (dk DX11_after_ 31 rfl) (by decide) ?_
            cases hF
            exact r_lret C hrt hR (dk DX11_after_ 32 rfl)
        refine z_ifne (tgt := 51) hx hb (dk DX11_after_ 24 rfl) (by decide) (fun c44 => ?_) (fun c44 => ?_)
        · have hF := if_t c44 hF
          refine lv_iconst (v := (0 : Int32)) hx hb (dk DX11_after_ 27 rfl) (by decide) ?_
          exact J52 false mq16 _ _ ls (lv_sub hl [0, 1, 2] rfl) hR hF
        · have hF := if_f c44 hF
          refine lv_iconst (v := (1 : Int32)) hx hb (dk DX11_after_ 25 rfl) (by decide) ?_
          refine lv_goto (tgt := 52) hx hb (dk DX11_after_ 26 rfl) (by decide) ?_
          exact J52 true mq16 _ _ ls (lv_sub hl [0, 1, 2] rfl) hR hF
    refine z_ifne (tgt := 29) hx hb (dk DX11_after_ 12 rfl) (by decide) (fun c22 => ?_) (fun c22 => ?_)
    · have hF := if_t c22 hF
      refine lv_iconst (v := (0 : Int32)) hx hb (dk DX11_after_ 15 rfl) (by decide) ?_
      exact J30 false mq8 _ _ ls (lv_sub hl [0, 1, 2] rfl) hR hF
    · have hF := if_f c22 hF
      refine lv_iconst (v := (1 : Int32)) hx hb (dk DX11_after_ 13 rfl) (by decide) ?_
      refine lv_goto (tgt := 30) hx hb (dk DX11_after_ 14 rfl) (by decide) ?_
      exact J30 true mq8 _ _ ls (lv_sub hl [0, 1, 2] rfl) hR hF
set_option maxHeartbeats 4000000 in
set_option maxRecDepth 100000 in
theorem C_M_remembers (l : Launch) (hl0 : l.stackTraces = false) (G : GG) (m0 : Mem) (v : Unit) (m' : Mem) (hF : F_M_remembers m0 = some (v, m')) : Ct l G mr0 N0 yX11_remembers cX11_remembers 2 none 1 [.ref (G.2.1 + 78)] m0 none m' := by
  refine Ct_of hl0 (by decide) (Nat.le_of_ble_eq_true rfl) ?_
  intro p e s mid args below meth c ls C hrt hl hR
  have hx := C.1.1
  have hb := C.1.2.1
  have hl : lv_has ls 2 [(0, .ref (G.2.1 + 78))] := hl
  unfold F_M_remembers at hF
  refine lv_aload_n hx hb (dk DX11_remembers 0 rfl) rfl (lv_at hl 0 rfl) ?_
  refine gX11_60 C hR ob78 (dk DX11_remembers 1 rfl) ?_
  refine lv_bipush (v := (12 : Int32)) hx hb (dk DX11_remembers 2 rfl) (by decide) ?_
  obtain ⟨k53_1, ek53_1, hF⟩ := lt_ex hF
  have J53 : ∀ (mq1 : Mem) (H : Heap) (locs : List Loc) (ls : Array Slot), lv_has ls 2 [(0, .ref (G.2.1 + 78))] → Rp G mr0 N0 mq1 s H locs → k53_1  mq1 = some (v, m') → W p l e (rmD 1) s mid args below meth c H locs 0 0 (MQ below (QR G mr0 N0 none m') args s 0 0 (fun q => G.2.1 ≤ q)) (F0 mid 53 ls []) := by
    intro  mq1 H locs ls hl hR hF
    rw [ek53_1] at hF
    refine lv_iconst (v := (0 : Int32)) hx hb (dk DX11_remembers 28 rfl) (by decide) ?_
    refine lv_istore_n (lv' := [(1, .int (0 : Int32)), (0, .ref (G.2.1 + 78))]) hx hb (dk DX11_remembers 29 rfl) rfl hl (by decide) rfl (fun ls hl => ?_)
    have L55 : ∀ (nf : Nat) (xq3 : Int32) (mq2 : Mem) (H : Heap) (locs : List Loc) (ls : Array Slot), lv_has ls 2 [(0, .ref (G.2.1 + 78)), (1, .int xq3)] → Rp G mr0 N0 mq2 s H locs → F_M_remembers_L55 nf xq3 mq2 = some (v, m') → W p l e (rmD 1) s mid args below meth c H locs 0 0 (MQ below (QR G mr0 N0 none m') args s 0 0 (fun q => G.2.1 ≤ q)) (F0 mid 55 ls []) := by
      intro nf
      induction nf with
      | zero =>
        intro xq3 mq2 H locs ls hl hR hF
        rw [F_M_remembers_L55] at hF
        cases hF
      | succ nf ihq5 =>
        intro xq3 mq2 H locs ls hl hR hF
        rw [F_M_remembers_L55] at hF
        refine lv_iload_n hx hb (dk DX11_remembers 30 rfl) rfl (lv_at hl 1 rfl) ?_
        refine lv_sipush (v := (298 : Int32)) hx hb (dk DX11_remembers 31 rfl) (by decide) ?_
        refine lv_icmp_ge (tgt := 91) hx hb (dk DX11_remembers 32 rfl) (by decide) (fun c59 => ?_) (fun c59 => ?_)
        · have hF := if_t c59 hF
          cases hF
          exact r_vret C hrt hR (dk DX11_remembers 50 rfl)
        · have hF := if_f c59 hF
          refine lv_aload_n hx hb (dk DX11_remembers 33 rfl) rfl (lv_at hl 0 rfl) ?_
          refine gX11_23 C hR ob78 rf78_4 (dk DX11_remembers 34 rfl) ?_
          refine lv_sipush (v := (298 : Int32)) hx hb (dk DX11_remembers 35 rfl) (by decide) ?_
          refine lv_aload_n hx hb (dk DX11_remembers 36 rfl) rfl (lv_at hl 0 rfl) ?_
          refine gX11_60 C hR ob78 (dk DX11_remembers 37 rfl) ?_
          refine lv_iconst (v := (1 : Int32)) hx hb (dk DX11_remembers 38 rfl) (by decide) ?_
          refine lv_isub hx hb (dk DX11_remembers 39 rfl) ?_
          refine lv_imul hx hb (dk DX11_remembers 40 rfl) ?_
          refine lv_iload_n hx hb (dk DX11_remembers 41 rfl) rfl (lv_at hl 1 rfl) ?_
          refine lv_iadd hx hb (dk DX11_remembers 42 rfl) ?_
          refine lv_topi (fun xq6 exq6 => ?_)
          have hF := lt_at exq6 hF
          refine lv_aload_n hx hb (dk DX11_remembers 43 rfl) rfl (lv_at hl 0 rfl) ?_
          refine gX11_13 C hR ob78 rf78_1 (dk DX11_remembers 44 rfl) ?_
          refine lv_iload_n hx hb (dk DX11_remembers 45 rfl) rfl (lv_at hl 1 rfl) ?_
          obtain ⟨hq7, hF⟩ := ckB_ex hF
          refine r_iald C hR ob79 hq7 (dk DX11_remembers 46 rfl) ?_
          refine lv_topi (fun xq8 exq8 => ?_)
          have hF := lt_at exq8 hF
          obtain ⟨hq10, hF⟩ := ckB_ex hF
          refine r_iast C hR ob82 hq10 (dk DX11_remembers 47 rfl) (fun H locs hR => ?_)
          obtain ⟨mq9, emq9, hF⟩ := lt_ex hF
          have hR := Rp_at emq9 hR
          obtain ⟨xq11, exq11, hF⟩ := lt_ex hF
          refine lv_iinc (v := xq11) (lv' := [(1, .int xq11), (0, .ref (G.2.1 + 78))]) hx hb (dk DX11_remembers 48 rfl) hl (k := 1) rfl (by rw [exq11]; rfl) (by decide) rfl (fun ls hl => ?_)
          refine lv_goto (tgt := 55) hx hb (dk DX11_remembers 49 rfl) (by decide) ?_
          exact ihq5 xq11 mq9 _ _ ls (lv_sub hl [1, 0] rfl) hR hF
    exact L55 1000000 (0 : Int32) mq1 _ _ ls (lv_sub hl [1, 0] rfl) hR hF
  refine lv_icmp_ne (tgt := 43) hx hb (dk DX11_remembers 3 rfl) (by decide) (fun c6 => ?_) (fun c6 => ?_)
  · have hF := if_f c6 hF
    refine lv_aload_n hx hb (dk DX11_remembers 22 rfl) rfl (lv_at hl 0 rfl) ?_
    refine lv_dup hx hb (dk DX11_remembers 23 rfl) rfl ?_
    refine gX11_60 C hR ob78 (dk DX11_remembers 24 rfl) ?_
    refine lv_iconst (v := (1 : Int32)) hx hb (dk DX11_remembers 25 rfl) (by decide) ?_
    refine lv_iadd hx hb (dk DX11_remembers 26 rfl) ?_
    refine pX11_60 (x := (gI m0 78 6) + (1 : Int32)) C hR ob78 (dk DX11_remembers 27 rfl) (fun H locs hR => ?_)
    obtain ⟨mq12, emq12, hF⟩ := lt_ex hF
    have hR := Rp_at emq12 hR
    exact J53 mq12 _ _ ls (lv_sub hl [0] rfl) hR hF
  · have hF := if_t c6 hF
    refine lv_iconst (v := (0 : Int32)) hx hb (dk DX11_remembers 4 rfl) (by decide) ?_
    refine lv_istore_n (lv' := [(1, .int (0 : Int32)), (0, .ref (G.2.1 + 78))]) hx hb (dk DX11_remembers 5 rfl) rfl hl (by decide) rfl (fun ls hl => ?_)
    obtain ⟨k40_13, ek40_13, hF⟩ := lt_ex hF
    have J40 : ∀ (mq13 : Mem) (H : Heap) (locs : List Loc) (ls : Array Slot), lv_has ls 2 [(0, .ref (G.2.1 + 78))] → Rp G mr0 N0 mq13 s H locs → k40_13  mq13 = some (v, m') → W p l e (rmD 1) s mid args below meth c H locs 0 0 (MQ below (QR G mr0 N0 none m') args s 0 0 (fun q => G.2.1 ≤ q)) (F0 mid 40 ls []) := by
      intro  mq13 H locs ls hl hR hF
      rw [ek40_13] at hF
      refine lv_goto (tgt := 53) hx hb (dk DX11_remembers 21 rfl) (by decide) ?_
      exact J53 mq13 _ _ ls (lv_sub hl [0] rfl) hR hF
    have L11 : ∀ (nf : Nat) (xq15 : Int32) (mq14 : Mem) (H : Heap) (locs : List Loc) (ls : Array Slot), lv_has ls 2 [(0, .ref (G.2.1 + 78)), (1, .int xq15)] → Rp G mr0 N0 mq14 s H locs → F_M_remembers_L11 k40_13 nf xq15 mq14 = some (v, m') → W p l e (rmD 1) s mid args below meth c H locs 0 0 (MQ below (QR G mr0 N0 none m') args s 0 0 (fun q => G.2.1 ≤ q)) (F0 mid 11 ls []) := by
      intro nf
      induction nf with
      | zero =>
        intro xq15 mq14 H locs ls hl hR hF
        rw [F_M_remembers_L11] at hF
        cases hF
      | succ nf ihq17 =>
        intro xq15 mq14 H locs ls hl hR hF
        rw [F_M_remembers_L11] at hF
        refine lv_iload_n hx hb (dk DX11_remembers 6 rfl) rfl (lv_at hl 1 rfl) ?_
        refine lv_sipush (v := (3278 : Int32)) hx hb (dk DX11_remembers 7 rfl) (by decide) ?_
        refine lv_icmp_ge (tgt := 40) hx hb (dk DX11_remembers 8 rfl) (by decide) (fun c15 => ?_) (fun c15 => ?_)
        · have hF := if_t c15 hF
          exact J40 mq14 _ _ ls (lv_sub hl [0] rfl) hR hF
        · have hF := if_f c15 hF
          refine lv_aload_n hx hb (dk DX11_remembers 9 rfl) rfl (lv_at hl 0 rfl) ?_
          refine gX11_23 C hR ob78 rf78_4 (dk DX11_remembers 10 rfl) ?_
          refine lv_iload_n hx hb (dk DX11_remembers 11 rfl) rfl (lv_at hl 1 rfl) ?_
          refine lv_aload_n hx hb (dk DX11_remembers 12 rfl) rfl (lv_at hl 0 rfl) ?_
          refine gX11_23 C hR ob78 rf78_4 (dk DX11_remembers 13 rfl) ?_
          refine lv_iload_n hx hb (dk DX11_remembers 14 rfl) rfl (lv_at hl 1 rfl) ?_
          refine lv_sipush (v := (298 : Int32)) hx hb (dk DX11_remembers 15 rfl) (by decide) ?_
          refine lv_iadd hx hb (dk DX11_remembers 16 rfl) ?_
          obtain ⟨hq18, hF⟩ := ckB_ex hF
          refine r_iald C hR ob82 hq18 (dk DX11_remembers 17 rfl) ?_
          refine lv_topi (fun xq19 exq19 => ?_)
          have hF := lt_at exq19 hF
          obtain ⟨hq21, hF⟩ := ckB_ex hF
          refine r_iast C hR ob82 hq21 (dk DX11_remembers 18 rfl) (fun H locs hR => ?_)
          obtain ⟨mq20, emq20, hF⟩ := lt_ex hF
          have hR := Rp_at emq20 hR
          obtain ⟨xq22, exq22, hF⟩ := lt_ex hF
          refine lv_iinc (v := xq22) (lv' := [(1, .int xq22), (0, .ref (G.2.1 + 78))]) hx hb (dk DX11_remembers 19 rfl) hl (k := 1) rfl (by rw [exq22]; rfl) (by decide) rfl (fun ls hl => ?_)
          refine lv_goto (tgt := 11) hx hb (dk DX11_remembers 20 rfl) (by decide) ?_
          exact ihq17 xq22 mq20 _ _ ls (lv_sub hl [1, 0] rfl) hR hF
    exact L11 1000000 (0 : Int32) m0 _ _ ls (lv_sub hl [1, 0] rfl) hR hF
set_option maxHeartbeats 4000000 in
set_option maxRecDepth 100000 in
theorem C_M_anew (l : Launch) (hl0 : l.stackTraces = false) (G : GG) (m0 : Mem) (v : Int32) (m' : Mem) (hF : F_M_anew m0 = some (v, m')) : Ct l G mr0 N0 yX11_anew cX11_anew 3 (some .int) 2 [.ref (G.2.1 + 78)] m0 (some (.int v)) m' := by
  refine Ct_of hl0 (by decide) (Nat.le_of_ble_eq_true rfl) ?_
  intro p e s mid args below meth c ls C hrt hl hR
  have hx := C.1.1
  have hb := C.1.2.1
  have hl : lv_has ls 3 [(0, .ref (G.2.1 + 78))] := hl
  unfold F_M_anew at hF
  refine lv_aload_n hx hb (dk DX11_anew 0 rfl) rfl (lv_at hl 0 rfl) ?_
  refine lv_iconst (v := (0 : Int32)) hx hb (dk DX11_anew 1 rfl) (by decide) ?_
  refine pX11_3 (x := (0 : Int32)) C hR ob78 (dk DX11_anew 2 rfl) (fun H locs hR => ?_)
  obtain ⟨mq1, emq1, hF⟩ := lt_ex hF
  have hR := Rp_at emq1 hR
  refine lv_aload_n hx hb (dk DX11_anew 3 rfl) rfl (lv_at hl 0 rfl) ?_
  obtain ⟨uq4, mq2, hzq3, hF⟩ := bnd_ex hF
  refine r_callVv (As := []) (rest := []) C hR (C_M_remembers l hl0 G mq1 _ _ hzq3) (by decide) (by decide) ob78 rfl wX11_294 rfl rfl (Nat.le_of_ble_eq_true rfl) hl.1 ⟨Nat.zero_le _, Nat.zero_le _⟩ (dk DX11_anew 4 rfl) (fun H locs hR => ?_)
  refine lv_aload_n hx hb (dk DX11_anew 5 rfl) rfl (lv_at hl 0 rfl) ?_
  obtain ⟨xq7, mq5, hzq6, hF⟩ := bnd_ex hF
  refine r_callVi (As := []) (rest := []) C hR (C_M_played l hl0 G mq2 _ _ hzq6) (by decide) (by decide) ob78 rfl wX11_288 rfl rfl (Nat.le_of_ble_eq_true rfl) hl.1 ⟨Nat.zero_le _, Nat.zero_le _⟩ (dk DX11_anew 6 rfl) (fun H locs hR => ?_)
  refine lv_istore_n (lv' := [(1, .int xq7), (0, .ref (G.2.1 + 78))]) hx hb (dk DX11_anew 7 rfl) rfl hl (by decide) rfl (fun ls hl => ?_)
  refine lv_bipush (v := (10 : Int32)) hx hb (dk DX11_anew 8 rfl) (by decide) ?_
  refine lv_istore_n (lv' := [(2, .int (10 : Int32)), (1, .int xq7), (0, .ref (G.2.1 + 78))]) hx hb (dk DX11_anew 9 rfl) rfl hl (by decide) rfl (fun ls hl => ?_)
  obtain ⟨k36_8, ek36_8, hF⟩ := lt_ex hF
  have J36 : ∀ (mq8 : Mem) (H : Heap) (locs : List Loc) (ls : Array Slot), lv_has ls 3 [(0, .ref (G.2.1 + 78)), (1, .int xq7)] → Rp G mr0 N0 mq8 s H locs → k36_8  mq8 = some (v, m') → W p l e (rmD 2) s mid args below meth c H locs 0 0 (MQ below (QR G mr0 N0 (some (.int v)) m') args s 0 0 (fun q => G.2.1 ≤ q)) (F0 mid 36 ls []) := by
    intro  mq8 H locs ls hl hR hF
    rw [ek36_8] at hF
    refine lv_aload_n hx hb (dk DX11_anew 20 rfl) rfl (lv_at hl 0 rfl) ?_
    refine gX11_13 C hR ob78 rf78_1 (dk DX11_anew 21 rfl) ?_
    refine lv_bipush (v := (10 : Int32)) hx hb (dk DX11_anew 22 rfl) (by decide) ?_
    refine lv_iconst (v := (-1 : Int32)) hx hb (dk DX11_anew 23 rfl) (by decide) ?_
    refine r_iast C hR ob79 rfl (dk DX11_anew 24 rfl) (fun H locs hR => ?_)
    obtain ⟨mq9, emq9, hF⟩ := lt_ex hF
    have hR := Rp_at emq9 hR
    refine lv_aload_n hx hb (dk DX11_anew 25 rfl) rfl (lv_at hl 0 rfl) ?_
    refine gX11_13 C hR ob78 rf78_1 (dk DX11_anew 26 rfl) ?_
    refine lv_bipush (v := (18 : Int32)) hx hb (dk DX11_anew 27 rfl) (by decide) ?_
    refine lv_iconst (v := (-1 : Int32)) hx hb (dk DX11_anew 28 rfl) (by decide) ?_
    refine r_iast C hR ob79 rfl (dk DX11_anew 29 rfl) (fun H locs hR => ?_)
    obtain ⟨mq10, emq10, hF⟩ := lt_ex hF
    have hR := Rp_at emq10 hR
    refine lv_sipush (v := (235 : Int32)) hx hb (dk DX11_anew 30 rfl) (by decide) ?_
    refine lv_istore_n (lv' := [(2, .int (235 : Int32)), (0, .ref (G.2.1 + 78)), (1, .int xq7)]) hx hb (dk DX11_anew 31 rfl) rfl hl (by decide) rfl (fun ls hl => ?_)
    have L56 : ∀ (nf : Nat) (xq12 : Int32) (mq11 : Mem) (H : Heap) (locs : List Loc) (ls : Array Slot), lv_has ls 3 [(0, .ref (G.2.1 + 78)), (1, .int xq7), (2, .int xq12)] → Rp G mr0 N0 mq11 s H locs → F_M_anew_L56 xq7 nf xq12 mq11 = some (v, m') → W p l e (rmD 2) s mid args below meth c H locs 0 0 (MQ below (QR G mr0 N0 (some (.int v)) m') args s 0 0 (fun q => G.2.1 ≤ q)) (F0 mid 56 ls []) := by
      intro nf
      induction nf with
      | zero =>
        intro xq12 mq11 H locs ls hl hR hF
        rw [F_M_anew_L56] at hF
        cases hF
      | succ nf ihq14 =>
        intro xq12 mq11 H locs ls hl hR hF
        rw [F_M_anew_L56] at hF
        refine lv_iload_n hx hb (dk DX11_anew 32 rfl) rfl (lv_at hl 2 rfl) ?_
        refine lv_sipush (v := (298 : Int32)) hx hb (dk DX11_anew 33 rfl) (by decide) ?_
        refine lv_icmp_ge (tgt := 76) hx hb (dk DX11_anew 34 rfl) (by decide) (fun c60 => ?_) (fun c60 => ?_)
        · have hF := if_t c60 hF
          refine lv_iload_n hx hb (dk DX11_anew 42 rfl) rfl (lv_at hl 1 rfl) ?_
          cases hF
          exact r_iret C hrt hR (dk DX11_anew 43 rfl)
        · have hF := if_f c60 hF
          refine lv_aload_n hx hb (dk DX11_anew 35 rfl) rfl (lv_at hl 0 rfl) ?_
          refine gX11_13 C hR ob78 rf78_1 (dk DX11_anew 36 rfl) ?_
          refine lv_iload_n hx hb (dk DX11_anew 37 rfl) rfl (lv_at hl 2 rfl) ?_
          refine lv_iconst (v := (0 : Int32)) hx hb (dk DX11_anew 38 rfl) (by decide) ?_
          obtain ⟨hq16, hF⟩ := ckB_ex hF
          refine r_iast C hR ob79 hq16 (dk DX11_anew 39 rfl) (fun H locs hR => ?_)
          obtain ⟨mq15, emq15, hF⟩ := lt_ex hF
          have hR := Rp_at emq15 hR
          obtain ⟨xq17, exq17, hF⟩ := lt_ex hF
          refine lv_iinc (v := xq17) (lv' := [(2, .int xq17), (0, .ref (G.2.1 + 78)), (1, .int xq7)]) hx hb (dk DX11_anew 40 rfl) hl (k := 2) rfl (by rw [exq17]; rfl) (by decide) rfl (fun ls hl => ?_)
          refine lv_goto (tgt := 56) hx hb (dk DX11_anew 41 rfl) (by decide) ?_
          exact ihq14 xq17 mq15 _ _ ls (lv_sub hl [1, 2, 0] rfl) hR hF
    exact L56 1000000 (235 : Int32) mq10 _ _ ls (lv_sub hl [1, 2, 0] rfl) hR hF
  have L17 : ∀ (nf : Nat) (xq19 : Int32) (mq18 : Mem) (H : Heap) (locs : List Loc) (ls : Array Slot), lv_has ls 3 [(0, .ref (G.2.1 + 78)), (1, .int xq7), (2, .int xq19)] → Rp G mr0 N0 mq18 s H locs → F_M_anew_L17 k36_8 nf xq19 mq18 = some (v, m') → W p l e (rmD 2) s mid args below meth c H locs 0 0 (MQ below (QR G mr0 N0 (some (.int v)) m') args s 0 0 (fun q => G.2.1 ≤ q)) (F0 mid 17 ls []) := by
    intro nf
    induction nf with
    | zero =>
      intro xq19 mq18 H locs ls hl hR hF
      rw [F_M_anew_L17] at hF
      cases hF
    | succ nf ihq21 =>
      intro xq19 mq18 H locs ls hl hR hF
      rw [F_M_anew_L17] at hF
      refine lv_iload_n hx hb (dk DX11_anew 10 rfl) rfl (lv_at hl 2 rfl) ?_
      refine lv_bipush (v := (19 : Int32)) hx hb (dk DX11_anew 11 rfl) (by decide) ?_
      refine lv_icmp_ge (tgt := 36) hx hb (dk DX11_anew 12 rfl) (by decide) (fun c20 => ?_) (fun c20 => ?_)
      · have hF := if_t c20 hF
        exact J36 mq18 _ _ ls (lv_sub hl [0, 1] rfl) hR hF
      · have hF := if_f c20 hF
        refine lv_aload_n hx hb (dk DX11_anew 13 rfl) rfl (lv_at hl 0 rfl) ?_
        refine gX11_13 C hR ob78 rf78_1 (dk DX11_anew 14 rfl) ?_
        refine lv_iload_n hx hb (dk DX11_anew 15 rfl) rfl (lv_at hl 2 rfl) ?_
        refine lv_iconst (v := (0 : Int32)) hx hb (dk DX11_anew 16 rfl) (by decide) ?_
        obtain ⟨hq23, hF⟩ := ckB_ex hF
        refine r_iast C hR ob79 hq23 (dk DX11_anew 17 rfl) (fun H locs hR => ?_)
        obtain ⟨mq22, emq22, hF⟩ := lt_ex hF
        have hR := Rp_at emq22 hR
        obtain ⟨xq24, exq24, hF⟩ := lt_ex hF
        refine lv_iinc (v := xq24) (lv' := [(2, .int xq24), (0, .ref (G.2.1 + 78)), (1, .int xq7)]) hx hb (dk DX11_anew 18 rfl) hl (k := 2) rfl (by rw [exq24]; rfl) (by decide) rfl (fun ls hl => ?_)
        refine lv_goto (tgt := 17) hx hb (dk DX11_anew 19 rfl) (by decide) ?_
        exact ihq21 xq24 mq22 _ _ ls (lv_sub hl [1, 2, 0] rfl) hR hF
  exact L17 1000000 (10 : Int32) mq5 _ _ ls (lv_sub hl [2, 1, 0] rfl) hR hF
set_option maxHeartbeats 4000000 in
set_option maxRecDepth 100000 in
theorem C_M_back (l : Launch) (hl0 : l.stackTraces = false) (G : GG) (m0 : Mem) (v : Bool) (m' : Mem) (hF : F_M_back m0 = some (v, m')) : Ct l G mr0 N0 yX11_back cX11_back 2 (some .boolean) 1 [.ref (G.2.1 + 78)] m0 (some (.int (b2i v))) m' := by
  refine Ct_of hl0 (by decide) (Nat.le_of_ble_eq_true rfl) ?_
  intro p e s mid args below meth c ls C hrt hl hR
  have hx := C.1.1
  have hb := C.1.2.1
  have hl : lv_has ls 2 [(0, .ref (G.2.1 + 78))] := hl
  unfold F_M_back at hF
  refine lv_aload_n hx hb (dk DX11_back 0 rfl) rfl (lv_at hl 0 rfl) ?_
  refine lv_iconst (v := (0 : Int32)) hx hb (dk DX11_back 1 rfl) (by decide) ?_
  refine pX11_3 (x := (0 : Int32)) C hR ob78 (dk DX11_back 2 rfl) (fun H locs hR => ?_)
  obtain ⟨mq1, emq1, hF⟩ := lt_ex hF
  have hR := Rp_at emq1 hR
  refine lv_aload_n hx hb (dk DX11_back 3 rfl) rfl (lv_at hl 0 rfl) ?_
  refine gX11_56 C hR ob78 (dk DX11_back 4 rfl) ?_
  refine z_ifne (tgt := 14) hx hb (dk DX11_back 5 rfl) (by decide) (fun c9 => ?_) (fun c9 => ?_)
  · have hF := if_t c9 hF
    refine lv_iconst (v := (0 : Int32)) hx hb (dk DX11_back 8 rfl) (by decide) ?_
    refine lv_istore_n (lv' := [(1, .int (0 : Int32)), (0, .ref (G.2.1 + 78))]) hx hb (dk DX11_back 9 rfl) rfl hl (by decide) rfl (fun ls hl => ?_)
    obtain ⟨k41_2, ek41_2, hF⟩ := lt_ex hF
    have J41 : ∀ (mq2 : Mem) (H : Heap) (locs : List Loc) (ls : Array Slot), lv_has ls 2 [(0, .ref (G.2.1 + 78))] → Rp G mr0 N0 mq2 s H locs → k41_2  mq2 = some (v, m') → W p l e (rmD 1) s mid args below meth c H locs 0 0 (MQ below (QR G mr0 N0 (some (.int (b2i v))) m') args s 0 0 (fun q => G.2.1 ≤ q)) (F0 mid 41 ls []) := by
      intro  mq2 H locs ls hl hR hF
      rw [ek41_2] at hF
      refine lv_aload_n hx hb (dk DX11_back 23 rfl) rfl (lv_at hl 0 rfl) ?_
      refine lv_iconst (v := (0 : Int32)) hx hb (dk DX11_back 24 rfl) (by decide) ?_
      refine pX11_60 (x := (0 : Int32)) C hR ob78 (dk DX11_back 25 rfl) (fun H locs hR => ?_)
      obtain ⟨mq3, emq3, hF⟩ := lt_ex hF
      have hR := Rp_at emq3 hR
      refine lv_iconst (v := (1 : Int32)) hx hb (dk DX11_back 26 rfl) (by decide) ?_
      cases hF
      exact r_zret C hrt hR (dk DX11_back 27 rfl)
    have L16 : ∀ (nf : Nat) (xq5 : Int32) (mq4 : Mem) (H : Heap) (locs : List Loc) (ls : Array Slot), lv_has ls 2 [(0, .ref (G.2.1 + 78)), (1, .int xq5)] → Rp G mr0 N0 mq4 s H locs → F_M_back_L16 k41_2 nf xq5 mq4 = some (v, m') → W p l e (rmD 1) s mid args below meth c H locs 0 0 (MQ below (QR G mr0 N0 (some (.int (b2i v))) m') args s 0 0 (fun q => G.2.1 ≤ q)) (F0 mid 16 ls []) := by
      intro nf
      induction nf with
      | zero =>
        intro xq5 mq4 H locs ls hl hR hF
        rw [F_M_back_L16] at hF
        cases hF
      | succ nf ihq7 =>
        intro xq5 mq4 H locs ls hl hR hF
        rw [F_M_back_L16] at hF
        refine lv_iload_n hx hb (dk DX11_back 10 rfl) rfl (lv_at hl 1 rfl) ?_
        refine lv_sipush (v := (1135 : Int32)) hx hb (dk DX11_back 11 rfl) (by decide) ?_
        refine lv_icmp_ge (tgt := 41) hx hb (dk DX11_back 12 rfl) (by decide) (fun c20 => ?_) (fun c20 => ?_)
        · have hF := if_t c20 hF
          exact J41 mq4 _ _ ls (lv_sub hl [0] rfl) hR hF
        · have hF := if_f c20 hF
          refine lv_aload_n hx hb (dk DX11_back 13 rfl) rfl (lv_at hl 0 rfl) ?_
          refine gX11_13 C hR ob78 rf78_1 (dk DX11_back 14 rfl) ?_
          refine lv_iload_n hx hb (dk DX11_back 15 rfl) rfl (lv_at hl 1 rfl) ?_
          refine lv_aload_n hx hb (dk DX11_back 16 rfl) rfl (lv_at hl 0 rfl) ?_
          refine gX11_17 C hR ob78 rf78_2 (dk DX11_back 17 rfl) ?_
          refine lv_iload_n hx hb (dk DX11_back 18 rfl) rfl (lv_at hl 1 rfl) ?_
          obtain ⟨hq8, hF⟩ := ckB_ex hF
          refine r_iald C hR ob80 hq8 (dk DX11_back 19 rfl) ?_
          refine lv_topi (fun xq9 exq9 => ?_)
          have hF := lt_at exq9 hF
          obtain ⟨hq11, hF⟩ := ckB_ex hF
          refine r_iast C hR ob79 hq11 (dk DX11_back 20 rfl) (fun H locs hR => ?_)
          obtain ⟨mq10, emq10, hF⟩ := lt_ex hF
          have hR := Rp_at emq10 hR
          obtain ⟨xq12, exq12, hF⟩ := lt_ex hF
          refine lv_iinc (v := xq12) (lv' := [(1, .int xq12), (0, .ref (G.2.1 + 78))]) hx hb (dk DX11_back 21 rfl) hl (k := 1) rfl (by rw [exq12]; rfl) (by decide) rfl (fun ls hl => ?_)
          refine lv_goto (tgt := 16) hx hb (dk DX11_back 22 rfl) (by decide) ?_
          exact ihq7 xq12 mq10 _ _ ls (lv_sub hl [1, 0] rfl) hR hF
    exact L16 1000000 (0 : Int32) mq1 _ _ ls (lv_sub hl [1, 0] rfl) hR hF
  · have hF := if_f c9 hF
    refine lv_iconst (v := (0 : Int32)) hx hb (dk DX11_back 6 rfl) (by decide) ?_
    cases hF
    exact r_zret C hrt hR (dk DX11_back 7 rfl)
set_option maxHeartbeats 4000000 in
set_option maxRecDepth 100000 in
theorem C_M_uses (l : Launch) (hl0 : l.stackTraces = false) (G : GG) (m0 : Mem) (v : Unit) (m' : Mem) (hF : F_M_uses m0 = some (v, m')) : Ct l G mr0 N0 yX11_uses cX11_uses 1 none 1 [.ref (G.2.1 + 78)] m0 none m' := by
  refine Ct_of hl0 (by decide) (Nat.le_of_ble_eq_true rfl) ?_
  intro p e s mid args below meth c ls C hrt hl hR
  have hx := C.1.1
  have hb := C.1.2.1
  have hl : lv_has ls 1 [(0, .ref (G.2.1 + 78))] := hl
  unfold F_M_uses at hF
  refine lv_aload_n hx hb (dk DX11_uses 0 rfl) rfl (lv_at hl 0 rfl) ?_
  refine lv_iconst (v := (0 : Int32)) hx hb (dk DX11_uses 1 rfl) (by decide) ?_
  refine pX11_3 (x := (0 : Int32)) C hR ob78 (dk DX11_uses 2 rfl) (fun H locs hR => ?_)
  obtain ⟨mq1, emq1, hF⟩ := lt_ex hF
  have hR := Rp_at emq1 hR
  refine lv_aload_n hx hb (dk DX11_uses 3 rfl) rfl (lv_at hl 0 rfl) ?_
  refine lv_aload_n hx hb (dk DX11_uses 4 rfl) rfl (lv_at hl 0 rfl) ?_
  refine gX11_71 C hR ob78 (dk DX11_uses 5 rfl) ?_
  refine pX11_77 (x := gI mq1 78 8) C hR ob78 (dk DX11_uses 6 rfl) (fun H locs hR => ?_)
  obtain ⟨mq2, emq2, hF⟩ := lt_ex hF
  have hR := Rp_at emq2 hR
  refine lv_aload_n hx hb (dk DX11_uses 7 rfl) rfl (lv_at hl 0 rfl) ?_
  refine lv_iconst (v := (0 : Int32)) hx hb (dk DX11_uses 8 rfl) (by decide) ?_
  refine pX11_71 (x := (0 : Int32)) C hR ob78 (dk DX11_uses 9 rfl) (fun H locs hR => ?_)
  obtain ⟨mq3, emq3, hF⟩ := lt_ex hF
  have hR := Rp_at emq3 hR
  refine lv_aload_n hx hb (dk DX11_uses 10 rfl) rfl (lv_at hl 0 rfl) ?_
  refine lv_iconst (v := (0 : Int32)) hx hb (dk DX11_uses 11 rfl) (by decide) ?_
  refine pX11_74 (x := (0 : Int32)) C hR ob78 (dk DX11_uses 12 rfl) (fun H locs hR => ?_)
  obtain ⟨mq4, emq4, hF⟩ := lt_ex hF
  have hR := Rp_at emq4 hR
  cases hF
  exact r_vret C hrt hR (dk DX11_uses 13 rfl)
set_option maxHeartbeats 4000000 in
set_option maxRecDepth 100000 in
theorem C_M_readSigns (l : Launch) (hl0 : l.stackTraces = false) (G : GG) (m0 : Mem) (v : Bool) (m' : Mem) (hF : F_M_readSigns m0 = some (v, m')) : Ct l G mr0 N0 yX11_readSigns cX11_readSigns 3 (some .boolean) 2 [.ref (G.2.1 + 78)] m0 (some (.int (b2i v))) m' := by
  refine Ct_of hl0 (by decide) (Nat.le_of_ble_eq_true rfl) ?_
  intro p e s mid args below meth c ls C hrt hl hR
  have hx := C.1.1
  have hb := C.1.2.1
  have hl : lv_has ls 3 [(0, .ref (G.2.1 + 78))] := hl
  unfold F_M_readSigns at hF
  refine lv_aload_n hx hb (dk DX11_readSigns 0 rfl) rfl (lv_at hl 0 rfl) ?_
  obtain ⟨uq3, mq1, hzq2, hF⟩ := bnd_ex hF
  refine r_callVv (As := []) (rest := []) C hR (C_M_uses l hl0 G m0 _ _ hzq2) (by decide) (by decide) ob78 rfl wX11_216 rfl rfl (Nat.le_of_ble_eq_true rfl) hl.1 ⟨Nat.zero_le _, Nat.zero_le _⟩ (dk DX11_readSigns 1 rfl) (fun H locs hR => ?_)
  refine lv_aload_n hx hb (dk DX11_readSigns 2 rfl) rfl (lv_at hl 0 rfl) ?_
  refine gX11_77 C hR ob78 (dk DX11_readSigns 3 rfl) ?_
  refine lv_iconst (v := (4 : Int32)) hx hb (dk DX11_readSigns 4 rfl) (by decide) ?_
  refine lv_irem hx hb (dk DX11_readSigns 5 rfl) (by decide) ?_
  refine lv_topi (fun xq4 exq4 => ?_)
  have hF := lt_at exq4 hF
  obtain ⟨k18_6, ek18_6, hF⟩ := lt_ex hF
  have J18 : ∀ (zq6 : Bool) (mq5 : Mem) (H : Heap) (locs : List Loc) (ls : Array Slot), lv_has ls 3 [(0, .ref (G.2.1 + 78))] → Rp G mr0 N0 mq5 s H locs → k18_6 zq6 mq5 = some (v, m') → W p l e (rmD 2) s mid args below meth c H locs 0 0 (MQ below (QR G mr0 N0 (some (.int (b2i v))) m') args s 0 0 (fun q => G.2.1 ≤ q)) (F0 mid 18 ls [.int (b2i zq6)]) := by
    intro zq6 mq5 H locs ls hl hR hF
    rw [ek18_6] at hF
    refine lv_istore_n (lv' := [(1, .int (b2i zq6)), (0, .ref (G.2.1 + 78))]) hx hb (dk DX11_readSigns 10 rfl) rfl hl (by decide) rfl (fun ls hl => ?_)
    refine lv_iconst (v := (0 : Int32)) hx hb (dk DX11_readSigns 11 rfl) (by decide) ?_
    refine lv_istore_n (lv' := [(2, .int (0 : Int32)), (1, .int (b2i zq6)), (0, .ref (G.2.1 + 78))]) hx hb (dk DX11_readSigns 12 rfl) rfl hl (by decide) rfl (fun ls hl => ?_)
    have L21 : ∀ (nf : Nat) (zq8 : Bool) (xq9 : Int32) (mq7 : Mem) (H : Heap) (locs : List Loc) (ls : Array Slot), lv_has ls 3 [(0, .ref (G.2.1 + 78)), (1, .int (b2i zq8)), (2, .int xq9)] → Rp G mr0 N0 mq7 s H locs → F_M_readSigns_L21 nf zq8 xq9 mq7 = some (v, m') → W p l e (rmD 2) s mid args below meth c H locs 0 0 (MQ below (QR G mr0 N0 (some (.int (b2i v))) m') args s 0 0 (fun q => G.2.1 ≤ q)) (F0 mid 21 ls []) := by
      intro nf
      induction nf with
      | zero =>
        intro zq8 xq9 mq7 H locs ls hl hR hF
        rw [F_M_readSigns_L21] at hF
        cases hF
      | succ nf ihq11 =>
        intro zq8 xq9 mq7 H locs ls hl hR hF
        rw [F_M_readSigns_L21] at hF
        refine lv_iload_n hx hb (dk DX11_readSigns 13 rfl) rfl (lv_at hl 2 rfl) ?_
        refine lv_aload_n hx hb (dk DX11_readSigns 14 rfl) rfl (lv_at hl 0 rfl) ?_
        refine gX11_77 C hR ob78 (dk DX11_readSigns 15 rfl) ?_
        refine lv_icmp_ge (tgt := 70) hx hb (dk DX11_readSigns 16 rfl) (by decide) (fun c26 => ?_) (fun c26 => ?_)
        · have hF := if_t c26 hF
          refine lv_iload_n hx hb (dk DX11_readSigns 40 rfl) rfl (lv_at hl 1 rfl) ?_
          cases hF
          exact r_zret C hrt hR (dk DX11_readSigns 41 rfl)
        · have hF := if_f c26 hF
          refine lv_iload_n hx hb (dk DX11_readSigns 17 rfl) rfl (lv_at hl 1 rfl) ?_
          obtain ⟨k63_13, ek63_13, hF⟩ := lt_ex hF
          have J63 : ∀ (zq13 : Bool) (mq12 : Mem) (H : Heap) (locs : List Loc) (ls : Array Slot), lv_has ls 3 [(0, .ref (G.2.1 + 78)), (2, .int xq9)] → Rp G mr0 N0 mq12 s H locs → k63_13 zq13 mq12 = some (v, m') → W p l e (rmD 2) s mid args below meth c H locs 0 0 (MQ below (QR G mr0 N0 (some (.int (b2i v))) m') args s 0 0 (fun q => G.2.1 ≤ q)) (F0 mid 63 ls [.int (b2i zq13)]) := by
            intro zq13 mq12 H locs ls hl hR hF
            rw [ek63_13] at hF
            refine lv_istore_n (lv' := [(1, .int (b2i zq13)), (0, .ref (G.2.1 + 78)), (2, .int xq9)]) hx hb (dk DX11_readSigns 37 rfl) rfl hl (by decide) rfl (fun ls hl => ?_)
            obtain ⟨xq14, exq14, hF⟩ := lt_ex hF
            refine lv_iinc (v := xq14) (lv' := [(2, .int xq14), (1, .int (b2i zq13)), (0, .ref (G.2.1 + 78))]) hx hb (dk DX11_readSigns 38 rfl) hl (k := 2) rfl (by rw [exq14]; rfl) (by decide) rfl (fun ls hl => ?_)
            refine lv_goto (tgt := 21) hx hb (dk DX11_readSigns 39 rfl) (by decide) ?_
            exact ihq11 zq13 xq14 mq12 _ _ ls (lv_sub hl [2, 1, 0] rfl) hR hF
          obtain ⟨k62_15, ek62_15, hF⟩ := lt_ex hF
          have J62 : ∀ (mq15 : Mem) (H : Heap) (locs : List Loc) (ls : Array Slot), lv_has ls 3 [(0, .ref (G.2.1 + 78)), (2, .int xq9)] → Rp G mr0 N0 mq15 s H locs → k62_15  mq15 = some (v, m') → W p l e (rmD 2) s mid args below meth c H locs 0 0 (MQ below (QR G mr0 N0 (some (.int (b2i v))) m') args s 0 0 (fun q => G.2.1 ≤ q)) (F0 mid 62 ls []) := by
            intro  mq15 H locs ls hl hR hF
            rw [ek62_15] at hF
            refine lv_iconst (v := (0 : Int32)) hx hb (dk DX11_readSigns 36 rfl) (by decide) ?_
            exact J63 false mq15 _ _ ls (lv_sub hl [0, 1] rfl) hR hF
          refine z_ifeq (tgt := 62) hx hb (dk DX11_readSigns 18 rfl) (by decide) (fun c30 => ?_) (fun c30 => ?_)
          · have hF := if_f c30 hF
            exact J62 mq7 _ _ ls (lv_sub hl [0, 2] rfl) hR hF
          · have hF := if_t c30 hF
            refine lv_aload_n hx hb (dk DX11_readSigns 19 rfl) rfl (lv_at hl 0 rfl) ?_
            refine gX11_26 C hR ob78 rf78_7 (dk DX11_readSigns 20 rfl) ?_
            refine lv_iload_n hx hb (dk DX11_readSigns 21 rfl) rfl (lv_at hl 2 rfl) ?_
            obtain ⟨hq16, hF⟩ := ckB_ex hF
            refine r_bald C hR ob83 hq16 (dk DX11_readSigns 22 rfl) ?_
            refine lv_topi (fun xq17 exq17 => ?_)
            have hF := lt_at exq17 hF
            refine lv_iconst (v := (0 : Int32)) hx hb (dk DX11_readSigns 23 rfl) (by decide) ?_
            refine lv_iload_n hx hb (dk DX11_readSigns 24 rfl) rfl (lv_at hl 2 rfl) ?_
            refine lv_iconst (v := (4 : Int32)) hx hb (dk DX11_readSigns 25 rfl) (by decide) ?_
            refine lv_irem hx hb (dk DX11_readSigns 26 rfl) (by decide) ?_
            refine lv_iconst (v := (3 : Int32)) hx hb (dk DX11_readSigns 27 rfl) (by decide) ?_
            obtain ⟨k52_19, ek52_19, hF⟩ := lt_ex hF
            have J52 : ∀ (xq19 : Int32) (mq18 : Mem) (H : Heap) (locs : List Loc) (ls : Array Slot), lv_has ls 3 [(0, .ref (G.2.1 + 78)), (2, .int xq9)] → Rp G mr0 N0 mq18 s H locs → k52_19 xq19 mq18 = some (v, m') → W p l e (rmD 2) s mid args below meth c H locs 0 0 (MQ below (QR G mr0 N0 (some (.int (b2i v))) m') args s 0 0 (fun q => G.2.1 ≤ q)) (F0 mid 52 ls [.int xq19, .int (0 : Int32), .int xq17]) := by
              intro xq19 mq18 H locs ls hl hR hF
              rw [ek52_19] at hF
              obtain ⟨zq22, mq20, hzq21, hF⟩ := bnd_ex hF
              refine r_callSi (As := [.int xq17, .int (0 : Int32), .int xq19]) (rest := []) C hR (C_M_in l hl0 G xq17 (0 : Int32) xq19 mq18 _ _ hzq21) (by decide) (by decide) wX11_67 rfl rfl (Nat.le_of_ble_eq_true rfl) hl.1 ⟨Nat.zero_le _, Nat.zero_le _⟩ (dk DX11_readSigns 32 rfl) (fun H locs hR => ?_)
              refine z_ifeq (tgt := 62) hx hb (dk DX11_readSigns 33 rfl) (by decide) (fun c55 => ?_) (fun c55 => ?_)
              · have hF := if_f c55 hF
                exact J62 mq20 _ _ ls (lv_sub hl [0, 1] rfl) hR hF
              · have hF := if_t c55 hF
                refine lv_iconst (v := (1 : Int32)) hx hb (dk DX11_readSigns 34 rfl) (by decide) ?_
                refine lv_goto (tgt := 63) hx hb (dk DX11_readSigns 35 rfl) (by decide) ?_
                exact J63 true mq20 _ _ ls (lv_sub hl [0, 1] rfl) hR hF
            refine lv_icmp_ne (tgt := 51) hx hb (dk DX11_readSigns 28 rfl) (by decide) (fun c44 => ?_) (fun c44 => ?_)
            · have hF := if_f c44 hF
              refine lv_iconst (v := (3 : Int32)) hx hb (dk DX11_readSigns 31 rfl) (by decide) ?_
              exact J52 (3 : Int32) mq7 _ _ ls (lv_sub hl [0, 2] rfl) hR hF
            · have hF := if_t c44 hF
              refine lv_iconst (v := (1 : Int32)) hx hb (dk DX11_readSigns 29 rfl) (by decide) ?_
              refine lv_goto (tgt := 52) hx hb (dk DX11_readSigns 30 rfl) (by decide) ?_
              exact J52 (1 : Int32) mq7 _ _ ls (lv_sub hl [0, 2] rfl) hR hF
    exact L21 1000000 zq6 (0 : Int32) mq5 _ _ ls (lv_sub hl [2, 1, 0] rfl) hR hF
  refine lv_if_ne (tgt := 17) hx hb (dk DX11_readSigns 6 rfl) (by decide) (fun c10 => ?_) (fun c10 => ?_)
  · have hF := if_f c10 hF
    refine lv_iconst (v := (0 : Int32)) hx hb (dk DX11_readSigns 9 rfl) (by decide) ?_
    exact J18 false mq1 _ _ ls (lv_sub hl [0] rfl) hR hF
  · have hF := if_t c10 hF
    refine lv_iconst (v := (1 : Int32)) hx hb (dk DX11_readSigns 7 rfl) (by decide) ?_
    refine lv_goto (tgt := 18) hx hb (dk DX11_readSigns 8 rfl) (by decide) ?_
    exact J18 true mq1 _ _ ls (lv_sub hl [0] rfl) hR hF
set_option maxHeartbeats 4000000 in
set_option maxRecDepth 100000 in
theorem C_M_mornings (l : Launch) (hl0 : l.stackTraces = false) (G : GG) (a1 : Int32) (a2 : Int32) (a3 : Int32) (a4 : Int32) (a5 : Bool) (m0 : Mem) (v : Int32) (m' : Mem) (hF : F_M_mornings a1 a2 a3 a4 a5 m0 = some (v, m')) : Ct l G mr0 N0 yX11_mornings cX11_mornings 8 (some .int) 1 [.ref (G.2.1 + 78), .int a1, .int a2, .int a3, .int a4, .int (b2i a5)] m0 (some (.int v)) m' := by
  refine Ct_of hl0 (by decide) (Nat.le_of_ble_eq_true rfl) ?_
  intro p e s mid args below meth c ls C hrt hl hR
  have hx := C.1.1
  have hb := C.1.2.1
  have hl : lv_has ls 8 [(0, .ref (G.2.1 + 78)), (1, .int a1), (2, .int a2), (3, .int a3), (4, .int a4), (5, .int (b2i a5))] := hl
  unfold F_M_mornings at hF
  refine lv_iconst (v := (0 : Int32)) hx hb (dk DX11_mornings 0 rfl) (by decide) ?_
  refine lv_istore (lv' := [(6, .int (0 : Int32)), (0, .ref (G.2.1 + 78)), (1, .int a1), (2, .int a2), (3, .int a3), (4, .int a4), (5, .int (b2i a5))]) hx hb (dk DX11_mornings 1 rfl) hl (by decide) rfl (fun ls hl => ?_)
  refine lv_iconst (v := (0 : Int32)) hx hb (dk DX11_mornings 2 rfl) (by decide) ?_
  refine lv_istore (lv' := [(7, .int (0 : Int32)), (6, .int (0 : Int32)), (0, .ref (G.2.1 + 78)), (1, .int a1), (2, .int a2), (3, .int a3), (4, .int a4), (5, .int (b2i a5))]) hx hb (dk DX11_mornings 3 rfl) hl (by decide) rfl (fun ls hl => ?_)
  have L6 : ∀ (nf : Nat) (xq2 : Int32) (xq3 : Int32) (mq1 : Mem) (H : Heap) (locs : List Loc) (ls : Array Slot), lv_has ls 8 [(0, .ref (G.2.1 + 78)), (1, .int a1), (2, .int a2), (3, .int a3), (4, .int a4), (5, .int (b2i a5)), (6, .int xq2), (7, .int xq3)] → Rp G mr0 N0 mq1 s H locs → F_M_mornings_L6 a1 a2 a3 a4 a5 nf xq2 xq3 mq1 = some (v, m') → W p l e (rmD 1) s mid args below meth c H locs 0 0 (MQ below (QR G mr0 N0 (some (.int v)) m') args s 0 0 (fun q => G.2.1 ≤ q)) (F0 mid 6 ls []) := by
    intro nf
    induction nf with
    | zero =>
      intro xq2 xq3 mq1 H locs ls hl hR hF
      rw [F_M_mornings_L6] at hF
      cases hF
    | succ nf ihq5 =>
      intro xq2 xq3 mq1 H locs ls hl hR hF
      rw [F_M_mornings_L6] at hF
      refine lv_iload hx hb (dk DX11_mornings 4 rfl) (lv_at hl 7 rfl) ?_
      refine lv_aload_n hx hb (dk DX11_mornings 5 rfl) rfl (lv_at hl 0 rfl) ?_
      refine gX11_77 C hR ob78 (dk DX11_mornings 6 rfl) ?_
      refine lv_icmp_ge (tgt := 80) hx hb (dk DX11_mornings 7 rfl) (by decide) (fun c12 => ?_) (fun c12 => ?_)
      · have hF := if_t c12 hF
        refine lv_iload hx hb (dk DX11_mornings 44 rfl) (lv_at hl 6 rfl) ?_
        cases hF
        exact r_iret C hrt hR (dk DX11_mornings 45 rfl)
      · have hF := if_f c12 hF
        refine lv_iload hx hb (dk DX11_mornings 8 rfl) (lv_at hl 6 rfl) ?_
        refine lv_aload_n hx hb (dk DX11_mornings 9 rfl) rfl (lv_at hl 0 rfl) ?_
        refine gX11_26 C hR ob78 rf78_7 (dk DX11_mornings 10 rfl) ?_
        refine lv_iload hx hb (dk DX11_mornings 11 rfl) (lv_at hl 7 rfl) ?_
        refine lv_iload_n hx hb (dk DX11_mornings 12 rfl) rfl (lv_at hl 1 rfl) ?_
        refine lv_iadd hx hb (dk DX11_mornings 13 rfl) ?_
        obtain ⟨hq6, hF⟩ := ckB_ex hF
        refine r_bald C hR ob83 hq6 (dk DX11_mornings 14 rfl) ?_
        refine lv_topi (fun xq7 exq7 => ?_)
        have hF := lt_at exq7 hF
        refine lv_iload_n hx hb (dk DX11_mornings 15 rfl) rfl (lv_at hl 2 rfl) ?_
        obtain ⟨k71_9, ek71_9, hF⟩ := lt_ex hF
        have J71 : ∀ (zq9 : Bool) (mq8 : Mem) (H : Heap) (locs : List Loc) (ls : Array Slot), lv_has ls 8 [(0, .ref (G.2.1 + 78)), (1, .int a1), (2, .int a2), (3, .int a3), (4, .int a4), (5, .int (b2i a5)), (7, .int xq3)] → Rp G mr0 N0 mq8 s H locs → k71_9 zq9 mq8 = some (v, m') → W p l e (rmD 1) s mid args below meth c H locs 0 0 (MQ below (QR G mr0 N0 (some (.int v)) m') args s 0 0 (fun q => G.2.1 ≤ q)) (F0 mid 71 ls [.int (b2i zq9), .int xq2]) := by
          intro zq9 mq8 H locs ls hl hR hF
          rw [ek71_9] at hF
          refine lv_iadd hx hb (dk DX11_mornings 40 rfl) ?_
          refine lv_topi (fun xq10 exq10 => ?_)
          have hF := lt_at exq10 hF
          refine lv_istore (lv' := [(6, .int xq10), (0, .ref (G.2.1 + 78)), (1, .int a1), (2, .int a2), (3, .int a3), (4, .int a4), (5, .int (b2i a5)), (7, .int xq3)]) hx hb (dk DX11_mornings 41 rfl) hl (by decide) rfl (fun ls hl => ?_)
          obtain ⟨xq11, exq11, hF⟩ := lt_ex hF
          refine lv_iinc (v := xq11) (lv' := [(7, .int xq11), (6, .int xq10), (0, .ref (G.2.1 + 78)), (1, .int a1), (2, .int a2), (3, .int a3), (4, .int a4), (5, .int (b2i a5))]) hx hb (dk DX11_mornings 42 rfl) hl (k := 7) rfl (by rw [exq11]; rfl) (by decide) rfl (fun ls hl => ?_)
          refine lv_goto (tgt := 6) hx hb (dk DX11_mornings 43 rfl) (by decide) ?_
          exact ihq5 xq10 xq11 mq8 _ _ ls (lv_sub hl [2, 3, 4, 5, 6, 7, 1, 0] rfl) hR hF
        obtain ⟨k70_12, ek70_12, hF⟩ := lt_ex hF
        have J70 : ∀ (mq12 : Mem) (H : Heap) (locs : List Loc) (ls : Array Slot), lv_has ls 8 [(0, .ref (G.2.1 + 78)), (1, .int a1), (2, .int a2), (3, .int a3), (4, .int a4), (5, .int (b2i a5)), (7, .int xq3)] → Rp G mr0 N0 mq12 s H locs → k70_12  mq12 = some (v, m') → W p l e (rmD 1) s mid args below meth c H locs 0 0 (MQ below (QR G mr0 N0 (some (.int v)) m') args s 0 0 (fun q => G.2.1 ≤ q)) (F0 mid 70 ls [.int xq2]) := by
          intro  mq12 H locs ls hl hR hF
          rw [ek70_12] at hF
          refine lv_iconst (v := (0 : Int32)) hx hb (dk DX11_mornings 39 rfl) (by decide) ?_
          exact J71 false mq12 _ _ ls (lv_sub hl [0, 1, 2, 3, 4, 5, 6] rfl) hR hF
        refine lv_icmp_ne (tgt := 70) hx hb (dk DX11_mornings 16 rfl) (by decide) (fun c27 => ?_) (fun c27 => ?_)
        · have hF := if_f c27 hF
          exact J70 mq1 _ _ ls (lv_sub hl [0, 1, 2, 3, 4, 5, 7] rfl) hR hF
        · have hF := if_t c27 hF
          refine lv_iload_n hx hb (dk DX11_mornings 17 rfl) rfl (lv_at hl 3 rfl) ?_
          obtain ⟨k48_13, ek48_13, hF⟩ := lt_ex hF
          have J48 : ∀ (mq13 : Mem) (H : Heap) (locs : List Loc) (ls : Array Slot), lv_has ls 8 [(0, .ref (G.2.1 + 78)), (1, .int a1), (2, .int a2), (3, .int a3), (4, .int a4), (5, .int (b2i a5)), (7, .int xq3)] → Rp G mr0 N0 mq13 s H locs → k48_13  mq13 = some (v, m') → W p l e (rmD 1) s mid args below meth c H locs 0 0 (MQ below (QR G mr0 N0 (some (.int v)) m') args s 0 0 (fun q => G.2.1 ≤ q)) (F0 mid 48 ls [.int xq2]) := by
            intro  mq13 H locs ls hl hR hF
            rw [ek48_13] at hF
            refine lv_iload hx hb (dk DX11_mornings 27 rfl) (lv_at hl 5 rfl) ?_
            obtain ⟨k66_14, ek66_14, hF⟩ := lt_ex hF
            have J66 : ∀ (mq14 : Mem) (H : Heap) (locs : List Loc) (ls : Array Slot), lv_has ls 8 [(0, .ref (G.2.1 + 78)), (1, .int a1), (2, .int a2), (3, .int a3), (4, .int a4), (5, .int (b2i a5)), (7, .int xq3)] → Rp G mr0 N0 mq14 s H locs → k66_14  mq14 = some (v, m') → W p l e (rmD 1) s mid args below meth c H locs 0 0 (MQ below (QR G mr0 N0 (some (.int v)) m') args s 0 0 (fun q => G.2.1 ≤ q)) (F0 mid 66 ls [.int xq2]) := by
              intro  mq14 H locs ls hl hR hF
              rw [ek66_14] at hF
              refine lv_iconst (v := (1 : Int32)) hx hb (dk DX11_mornings 37 rfl) (by decide) ?_
              refine lv_goto (tgt := 71) hx hb (dk DX11_mornings 38 rfl) (by decide) ?_
              exact J71 true mq14 _ _ ls (lv_sub hl [0, 1, 2, 3, 4, 5, 6] rfl) hR hF
            refine z_ifeq (tgt := 66) hx hb (dk DX11_mornings 28 rfl) (by decide) (fun c50 => ?_) (fun c50 => ?_)
            · have hF := if_f c50 hF
              exact J66 mq13 _ _ ls (lv_sub hl [0, 1, 2, 3, 4, 5, 6] rfl) hR hF
            · have hF := if_t c50 hF
              refine lv_aload_n hx hb (dk DX11_mornings 29 rfl) rfl (lv_at hl 0 rfl) ?_
              refine gX11_26 C hR ob78 rf78_7 (dk DX11_mornings 30 rfl) ?_
              refine lv_iload hx hb (dk DX11_mornings 31 rfl) (lv_at hl 6 rfl) ?_
              refine lv_iconst (v := (3 : Int32)) hx hb (dk DX11_mornings 32 rfl) (by decide) ?_
              refine lv_iadd hx hb (dk DX11_mornings 33 rfl) ?_
              obtain ⟨hq15, hF⟩ := ckB_ex hF
              refine r_bald C hR ob83 hq15 (dk DX11_mornings 34 rfl) ?_
              refine lv_topi (fun xq16 exq16 => ?_)
              have hF := lt_at exq16 hF
              refine lv_iconst (v := (1 : Int32)) hx hb (dk DX11_mornings 35 rfl) (by decide) ?_
              refine lv_icmp_ne (tgt := 70) hx hb (dk DX11_mornings 36 rfl) (by decide) (fun c63 => ?_) (fun c63 => ?_)
              · have hF := if_f c63 hF
                exact J70 mq13 _ _ ls (lv_sub hl [0, 1, 2, 3, 4, 5, 6] rfl) hR hF
              · have hF := if_t c63 hF
                exact J66 mq13 _ _ ls (lv_sub hl [0, 1, 2, 3, 4, 5, 6] rfl) hR hF
          refine lv_if_lt (tgt := 48) hx hb (dk DX11_mornings 18 rfl) (by decide) (fun c31 => ?_) (fun c31 => ?_)
          · have hF := if_t c31 hF
            exact J48 mq1 _ _ ls (lv_sub hl [0, 1, 2, 3, 4, 5, 7] rfl) hR hF
          · have hF := if_f c31 hF
            refine lv_aload_n hx hb (dk DX11_mornings 19 rfl) rfl (lv_at hl 0 rfl) ?_
            refine gX11_26 C hR ob78 rf78_7 (dk DX11_mornings 20 rfl) ?_
            refine lv_iload hx hb (dk DX11_mornings 21 rfl) (lv_at hl 7 rfl) ?_
            refine lv_iload_n hx hb (dk DX11_mornings 22 rfl) rfl (lv_at hl 3 rfl) ?_
            refine lv_iadd hx hb (dk DX11_mornings 23 rfl) ?_
            obtain ⟨hq17, hF⟩ := ckB_ex hF
            refine r_bald C hR ob83 hq17 (dk DX11_mornings 24 rfl) ?_
            refine lv_topi (fun xq18 exq18 => ?_)
            have hF := lt_at exq18 hF
            refine lv_iload hx hb (dk DX11_mornings 25 rfl) (lv_at hl 4 rfl) ?_
            refine lv_icmp_ne (tgt := 70) hx hb (dk DX11_mornings 26 rfl) (by decide) (fun c45 => ?_) (fun c45 => ?_)
            · have hF := if_f c45 hF
              exact J70 mq1 _ _ ls (lv_sub hl [0, 1, 2, 3, 4, 5, 7] rfl) hR hF
            · have hF := if_t c45 hF
              exact J48 mq1 _ _ ls (lv_sub hl [0, 1, 2, 3, 4, 5, 7] rfl) hR hF
  exact L6 1000000 (0 : Int32) (0 : Int32) m0 _ _ ls (lv_sub hl [2, 3, 4, 5, 6, 7, 1, 0] rfl) hR hF
set_option maxHeartbeats 4000000 in
set_option maxRecDepth 100000 in
theorem C_M_rightBy (l : Launch) (hl0 : l.stackTraces = false) (G : GG) (a1 : Int32) (a2 : Int32) (m0 : Mem) (v : Int32) (m' : Mem) (hF : F_M_rightBy a1 a2 m0 = some (v, m')) : Ct l G mr0 N0 yX11_rightBy cX11_rightBy 7 (some .int) 2 [.ref (G.2.1 + 78), .int a1, .int a2] m0 (some (.int v)) m' := by
  refine Ct_of hl0 (by decide) (Nat.le_of_ble_eq_true rfl) ?_
  intro p e s mid args below meth c ls C hrt hl hR
  have hx := C.1.1
  have hb := C.1.2.1
  have hl : lv_has ls 7 [(0, .ref (G.2.1 + 78)), (1, .int a1), (2, .int a2)] := hl
  unfold F_M_rightBy at hF
  refine lv_iconst (v := (0 : Int32)) hx hb (dk DX11_rightBy 0 rfl) (by decide) ?_
  refine lv_istore_n (lv' := [(3, .int (0 : Int32)), (0, .ref (G.2.1 + 78)), (1, .int a1), (2, .int a2)]) hx hb (dk DX11_rightBy 1 rfl) rfl hl (by decide) rfl (fun ls hl => ?_)
  refine lv_iconst (v := (0 : Int32)) hx hb (dk DX11_rightBy 2 rfl) (by decide) ?_
  refine lv_istore (lv' := [(4, .int (0 : Int32)), (3, .int (0 : Int32)), (0, .ref (G.2.1 + 78)), (1, .int a1), (2, .int a2)]) hx hb (dk DX11_rightBy 3 rfl) hl (by decide) rfl (fun ls hl => ?_)
  have L5 : ∀ (nf : Nat) (xq2 : Int32) (xq3 : Int32) (mq1 : Mem) (H : Heap) (locs : List Loc) (ls : Array Slot), lv_has ls 7 [(0, .ref (G.2.1 + 78)), (1, .int a1), (2, .int a2), (3, .int xq2), (4, .int xq3)] → Rp G mr0 N0 mq1 s H locs → F_M_rightBy_L5 a1 a2 nf xq2 xq3 mq1 = some (v, m') → W p l e (rmD 2) s mid args below meth c H locs 0 0 (MQ below (QR G mr0 N0 (some (.int v)) m') args s 0 0 (fun q => G.2.1 ≤ q)) (F0 mid 5 ls []) := by
    intro nf
    induction nf with
    | zero =>
      intro xq2 xq3 mq1 H locs ls hl hR hF
      rw [F_M_rightBy_L5] at hF
      cases hF
    | succ nf ihq5 =>
      intro xq2 xq3 mq1 H locs ls hl hR hF
      rw [F_M_rightBy_L5] at hF
      refine lv_iload hx hb (dk DX11_rightBy 4 rfl) (lv_at hl 4 rfl) ?_
      refine lv_iconst (v := (4 : Int32)) hx hb (dk DX11_rightBy 5 rfl) (by decide) ?_
      refine lv_icmp_ge (tgt := 75) hx hb (dk DX11_rightBy 6 rfl) (by decide) (fun c8 => ?_) (fun c8 => ?_)
      · have hF := if_t c8 hF
        refine lv_iload_n hx hb (dk DX11_rightBy 42 rfl) rfl (lv_at hl 3 rfl) ?_
        cases hF
        exact r_iret C hrt hR (dk DX11_rightBy 43 rfl)
      · have hF := if_f c8 hF
        refine lv_iconst (v := (0 : Int32)) hx hb (dk DX11_rightBy 7 rfl) (by decide) ?_
        refine lv_istore (lv' := [(5, .int (0 : Int32)), (0, .ref (G.2.1 + 78)), (1, .int a1), (2, .int a2), (3, .int xq2), (4, .int xq3)]) hx hb (dk DX11_rightBy 8 rfl) hl (by decide) rfl (fun ls hl => ?_)
        obtain ⟨k69_7, ek69_7, hF⟩ := lt_ex hF
        have J69 : ∀ (xq7 : Int32) (mq6 : Mem) (H : Heap) (locs : List Loc) (ls : Array Slot), lv_has ls 7 [(0, .ref (G.2.1 + 78)), (1, .int a1), (2, .int a2), (3, .int xq7), (4, .int xq3)] → Rp G mr0 N0 mq6 s H locs → k69_7 xq7 mq6 = some (v, m') → W p l e (rmD 2) s mid args below meth c H locs 0 0 (MQ below (QR G mr0 N0 (some (.int v)) m') args s 0 0 (fun q => G.2.1 ≤ q)) (F0 mid 69 ls []) := by
          intro xq7 mq6 H locs ls hl hR hF
          rw [ek69_7] at hF
          obtain ⟨xq8, exq8, hF⟩ := lt_ex hF
          refine lv_iinc (v := xq8) (lv' := [(4, .int xq8), (0, .ref (G.2.1 + 78)), (1, .int a1), (2, .int a2), (3, .int xq7)]) hx hb (dk DX11_rightBy 40 rfl) hl (k := 4) rfl (by rw [exq8]; rfl) (by decide) rfl (fun ls hl => ?_)
          refine lv_goto (tgt := 5) hx hb (dk DX11_rightBy 41 rfl) (by decide) ?_
          exact ihq5 xq7 xq8 mq6 _ _ ls (lv_sub hl [1, 2, 3, 4, 0] rfl) hR hF
        have L14 : ∀ (nf : Nat) (xq10 : Int32) (xq11 : Int32) (mq9 : Mem) (H : Heap) (locs : List Loc) (ls : Array Slot), lv_has ls 7 [(0, .ref (G.2.1 + 78)), (1, .int a1), (2, .int a2), (3, .int xq10), (4, .int xq3), (5, .int xq11)] → Rp G mr0 N0 mq9 s H locs → F_M_rightBy_L14 a1 a2 xq3 k69_7 nf xq10 xq11 mq9 = some (v, m') → W p l e (rmD 2) s mid args below meth c H locs 0 0 (MQ below (QR G mr0 N0 (some (.int v)) m') args s 0 0 (fun q => G.2.1 ≤ q)) (F0 mid 14 ls []) := by
          intro nf
          induction nf with
          | zero =>
            intro xq10 xq11 mq9 H locs ls hl hR hF
            rw [F_M_rightBy_L14] at hF
            cases hF
          | succ nf ihq13 =>
            intro xq10 xq11 mq9 H locs ls hl hR hF
            rw [F_M_rightBy_L14] at hF
            refine lv_iload hx hb (dk DX11_rightBy 9 rfl) (lv_at hl 5 rfl) ?_
            refine lv_iload_n hx hb (dk DX11_rightBy 10 rfl) rfl (lv_at hl 2 rfl) ?_
            obtain ⟨k25_15, ek25_15, hF⟩ := lt_ex hF
            have J25 : ∀ (xq15 : Int32) (mq14 : Mem) (H : Heap) (locs : List Loc) (ls : Array Slot), lv_has ls 7 [(0, .ref (G.2.1 + 78)), (1, .int a1), (2, .int a2), (3, .int xq10), (4, .int xq3), (5, .int xq11)] → Rp G mr0 N0 mq14 s H locs → k25_15 xq15 mq14 = some (v, m') → W p l e (rmD 2) s mid args below meth c H locs 0 0 (MQ below (QR G mr0 N0 (some (.int v)) m') args s 0 0 (fun q => G.2.1 ≤ q)) (F0 mid 25 ls [.int xq15, .int xq11]) := by
              intro xq15 mq14 H locs ls hl hR hF
              rw [ek25_15] at hF
              refine lv_icmp_ge (tgt := 69) hx hb (dk DX11_rightBy 15 rfl) (by decide) (fun c25 => ?_) (fun c25 => ?_)
              · have hF := if_t c25 hF
                exact J69 xq10 mq14 _ _ ls (lv_sub hl [0, 1, 2, 3, 4] rfl) hR hF
              · have hF := if_f c25 hF
                refine lv_aload_n hx hb (dk DX11_rightBy 16 rfl) rfl (lv_at hl 0 rfl) ?_
                refine lv_iload_n hx hb (dk DX11_rightBy 17 rfl) rfl (lv_at hl 1 rfl) ?_
                refine lv_iload hx hb (dk DX11_rightBy 18 rfl) (lv_at hl 4 rfl) ?_
                refine lv_iload_n hx hb (dk DX11_rightBy 19 rfl) rfl (lv_at hl 2 rfl) ?_
                refine lv_iload hx hb (dk DX11_rightBy 20 rfl) (lv_at hl 5 rfl) ?_
                refine lv_iconst (v := (1 : Int32)) hx hb (dk DX11_rightBy 21 rfl) (by decide) ?_
                obtain ⟨xq18, mq16, hzq17, hF⟩ := bnd_ex hF
                refine r_callVi (As := [.int a1, .int xq3, .int a2, .int xq11, .int (b2i true)]) (rest := []) C hR (C_M_mornings l hl0 G a1 xq3 a2 xq11 true mq14 _ _ hzq17) (by decide) (by decide) ob78 rfl wX11_479 rfl rfl (Nat.le_of_ble_eq_true rfl) hl.1 ⟨Nat.zero_le _, Nat.zero_le _⟩ (dk DX11_rightBy 22 rfl) (fun H locs hR => ?_)
                refine lv_istore (lv' := [(6, .int xq18), (0, .ref (G.2.1 + 78)), (1, .int a1), (2, .int a2), (3, .int xq10), (4, .int xq3), (5, .int xq11)]) hx hb (dk DX11_rightBy 23 rfl) hl (by decide) rfl (fun ls hl => ?_)
                refine lv_iload_n hx hb (dk DX11_rightBy 24 rfl) rfl (lv_at hl 4 rfl) ?_
                refine lv_iload hx hb (dk DX11_rightBy 25 rfl) (lv_at hl 0 rfl) ?_
                refine lv_aload_n hx hb (dk DX11_rightBy 26 rfl) rfl (lv_at hl 1 rfl) ?_
                refine lv_iload_n hx hb (dk DX11_rightBy 27 rfl) rfl (lv_at hl 2 rfl) ?_
                refine lv_iload hx hb (dk DX11_rightBy 28 rfl) (lv_at hl 5 rfl) ?_
                refine lv_iload_n hx hb (dk DX11_rightBy 29 rfl) rfl (lv_at hl 3 rfl) ?_
                refine lv_iload hx hb (dk DX11_rightBy 30 rfl) (lv_at hl 6 rfl) ?_
                refine lv_iconst (v := (0 : Int32)) hx hb (dk DX11_rightBy 31 rfl) (by decide) ?_
                obtain ⟨xq21, mq19, hzq20, hF⟩ := bnd_ex hF
                refine r_callVi (As := [.int a1, .int xq3, .int a2, .int xq11, .int (b2i false)]) (rest := [.int xq18, .int xq10]) C hR (C_M_mornings l hl0 G a1 xq3 a2 xq11 false mq16 _ _ hzq20) (by decide) (by decide) ob78 rfl wX11_479 rfl rfl (Nat.le_of_ble_eq_true rfl) hl.1 ⟨Nat.zero_le _, Nat.zero_le _⟩ (dk DX11_rightBy 32 rfl) (fun H locs hR => ?_)
                refine lv_iload hx hb (dk DX11_rightBy 33 rfl) (lv_at hl 0 rfl) ?_
                refine lv_isub hx hb (dk DX11_rightBy 34 rfl) ?_
                refine r_mxI C (gd q2017 rfl) (by decide) (Nat.le_of_ble_eq_true rfl) hl.1 ⟨Nat.zero_le _, Nat.zero_le _⟩ (dk DX11_rightBy 35 rfl) ?_
                refine lv_iadd hx hb (dk DX11_rightBy 36 rfl) ?_
                refine lv_topi (fun xq22 exq22 => ?_)
                have hF := lt_at exq22 hF
                refine lv_istore_n (lv' := [(3, .int xq22), (6, .int xq18), (0, .ref (G.2.1 + 78)), (1, .int a1), (2, .int a2), (4, .int xq3), (5, .int xq11)]) hx hb (dk DX11_rightBy 37 rfl) rfl hl (by decide) rfl (fun ls hl => ?_)
                obtain ⟨xq23, exq23, hF⟩ := lt_ex hF
                refine lv_iinc (v := xq23) (lv' := [(5, .int xq23), (3, .int xq22), (6, .int xq18), (0, .ref (G.2.1 + 78)), (1, .int a1), (2, .int a2), (4, .int xq3)]) hx hb (dk DX11_rightBy 38 rfl) hl (k := 6) rfl (by rw [exq23]; rfl) (by decide) rfl (fun ls hl => ?_)
                refine lv_goto (tgt := 14) hx hb (dk DX11_rightBy 39 rfl) (by decide) ?_
                exact ihq13 xq22 xq23 mq19 _ _ ls (lv_sub hl [3, 4, 5, 1, 6, 0] rfl) hR hF
            refine lv_if_ge (tgt := 24) hx hb (dk DX11_rightBy 11 rfl) (by decide) (fun c17 => ?_) (fun c17 => ?_)
            · have hF := if_t c17 hF
              refine lv_iconst (v := (4 : Int32)) hx hb (dk DX11_rightBy 14 rfl) (by decide) ?_
              exact J25 (4 : Int32) mq9 _ _ ls (lv_sub hl [0, 1, 2, 3, 4, 5] rfl) hR hF
            · have hF := if_f c17 hF
              refine lv_iconst (v := (1 : Int32)) hx hb (dk DX11_rightBy 12 rfl) (by decide) ?_
              refine lv_goto (tgt := 25) hx hb (dk DX11_rightBy 13 rfl) (by decide) ?_
              exact J25 (1 : Int32) mq9 _ _ ls (lv_sub hl [0, 1, 2, 3, 4, 5] rfl) hR hF
        exact L14 1000000 xq2 (0 : Int32) mq1 _ _ ls (lv_sub hl [1, 2, 3, 4, 5, 0] rfl) hR hF
  exact L5 1000000 (0 : Int32) (0 : Int32) m0 _ _ ls (lv_sub hl [2, 3, 4, 1, 0] rfl) hR hF
set_option maxHeartbeats 4000000 in
set_option maxRecDepth 100000 in
theorem C_M_best (l : Launch) (hl0 : l.stackTraces = false) (G : GG) (a1 : Bool) (a2 : Bool) (m0 : Mem) (v : Int32) (m' : Mem) (hF : F_M_best a1 a2 m0 = some (v, m')) : Ct l G mr0 N0 yX11_best cX11_best 8 (some .int) 3 [.ref (G.2.1 + 78), .int (b2i a1), .int (b2i a2)] m0 (some (.int v)) m' := by
  refine Ct_of hl0 (by decide) (Nat.le_of_ble_eq_true rfl) ?_
  intro p e s mid args below meth c ls C hrt hl hR
  have hx := C.1.1
  have hb := C.1.2.1
  have hl : lv_has ls 8 [(0, .ref (G.2.1 + 78)), (1, .int (b2i a1)), (2, .int (b2i a2))] := hl
  unfold F_M_best at hF
  refine lv_aload_n hx hb (dk DX11_best 0 rfl) rfl (lv_at hl 0 rfl) ?_
  obtain ⟨zq3, mq1, hzq2, hF⟩ := bnd_ex hF
  refine r_callVi (As := []) (rest := []) C hR (C_M_readSigns l hl0 G m0 _ _ hzq2) (by decide) (by decide) ob78 rfl wX11_476 rfl rfl (Nat.le_of_ble_eq_true rfl) hl.1 ⟨Nat.zero_le _, Nat.zero_le _⟩ (dk DX11_best 1 rfl) (fun H locs hR => ?_)
  refine lv_istore_n (lv' := [(3, .int (b2i zq3)), (0, .ref (G.2.1 + 78)), (1, .int (b2i a1)), (2, .int (b2i a2))]) hx hb (dk DX11_best 2 rfl) rfl hl (by decide) rfl (fun ls hl => ?_)
  refine lv_aload_n hx hb (dk DX11_best 3 rfl) rfl (lv_at hl 1 rfl) ?_
  refine lv_iload_n hx hb (dk DX11_best 4 rfl) rfl (lv_at hl 0 rfl) ?_
  obtain ⟨k15_5, ek15_5, hF⟩ := lt_ex hF
  have J15 : ∀ (zq5 : Bool) (mq4 : Mem) (H : Heap) (locs : List Loc) (ls : Array Slot), lv_has ls 8 [(0, .ref (G.2.1 + 78)), (1, .int (b2i a1)), (2, .int (b2i a2))] → Rp G mr0 N0 mq4 s H locs → k15_5 zq5 mq4 = some (v, m') → W p l e (rmD 3) s mid args below meth c H locs 0 0 (MQ below (QR G mr0 N0 (some (.int v)) m') args s 0 0 (fun q => G.2.1 ≤ q)) (F0 mid 15 ls [.int (b2i zq5), .ref (G.2.1 + 78)]) := by
    intro zq5 mq4 H locs ls hl hR hF
    rw [ek15_5] at hF
    refine lv_iconst (v := (1 : Int32)) hx hb (dk DX11_best 9 rfl) (by decide) ?_
    obtain ⟨zq8, mq6, hzq7, hF⟩ := bnd_ex hF
    refine r_callVi (As := [.int (b2i zq5), .int (1 : Int32)]) (rest := []) C hR (C_M_throwsIf l hl0 G zq5 (1 : Int32) mq4 _ _ hzq7) (by decide) (by decide) ob78 rfl wX11_227 rfl rfl (Nat.le_of_ble_eq_true rfl) hl.1 ⟨Nat.zero_le _, Nat.zero_le _⟩ (dk DX11_best 10 rfl) (fun H locs hR => ?_)
    refine z_ifeq (tgt := 24) hx hb (dk DX11_best 11 rfl) (by decide) (fun c19 => ?_) (fun c19 => ?_)
    · have hF := if_f c19 hF
      refine lv_iconst (v := (-1 : Int32)) hx hb (dk DX11_best 14 rfl) (by decide) ?_
      refine lv_istore (lv' := [(4, .int (-1 : Int32)), (0, .ref (G.2.1 + 78)), (1, .int (b2i a1)), (2, .int (b2i a2))]) hx hb (dk DX11_best 15 rfl) hl (by decide) rfl (fun ls hl => ?_)
      refine lv_iconst (v := (0 : Int32)) hx hb (dk DX11_best 16 rfl) (by decide) ?_
      refine lv_istore (lv' := [(5, .int (0 : Int32)), (4, .int (-1 : Int32)), (0, .ref (G.2.1 + 78)), (1, .int (b2i a1)), (2, .int (b2i a2))]) hx hb (dk DX11_best 17 rfl) hl (by decide) rfl (fun ls hl => ?_)
      refine lv_iconst (v := (0 : Int32)) hx hb (dk DX11_best 18 rfl) (by decide) ?_
      refine lv_istore (lv' := [(6, .int (0 : Int32)), (5, .int (0 : Int32)), (4, .int (-1 : Int32)), (0, .ref (G.2.1 + 78)), (1, .int (b2i a1)), (2, .int (b2i a2))]) hx hb (dk DX11_best 19 rfl) hl (by decide) rfl (fun ls hl => ?_)
      obtain ⟨k109_11, ek109_11, hF⟩ := lt_ex hF
      have J109 : ∀ (xq10 : Int32) (xq11 : Int32) (mq9 : Mem) (H : Heap) (locs : List Loc) (ls : Array Slot), lv_has ls 8 [(2, .int (b2i a2)), (4, .int xq10), (5, .int xq11)] → Rp G mr0 N0 mq9 s H locs → k109_11 xq10 xq11 mq9 = some (v, m') → W p l e (rmD 3) s mid args below meth c H locs 0 0 (MQ below (QR G mr0 N0 (some (.int v)) m') args s 0 0 (fun q => G.2.1 ≤ q)) (F0 mid 109 ls []) := by
        intro xq10 xq11 mq9 H locs ls hl hR hF
        rw [ek109_11] at hF
        refine lv_iload_n hx hb (dk DX11_best 56 rfl) rfl (lv_at hl 0 rfl) ?_
        refine z_ifeq (tgt := 118) hx hb (dk DX11_best 57 rfl) (by decide) (fun c110 => ?_) (fun c110 => ?_)
        · have hF := if_f c110 hF
          refine lv_iload hx hb (dk DX11_best 60 rfl) (lv_at hl 1 rfl) ?_
          cases hF
          exact r_iret C hrt hR (dk DX11_best 61 rfl)
        · have hF := if_t c110 hF
          refine lv_iload hx hb (dk DX11_best 58 rfl) (lv_at hl 2 rfl) ?_
          refine lv_goto (tgt := 120) hx hb (dk DX11_best 59 rfl) (by decide) ?_
          cases hF
          exact r_iret C hrt hR (dk DX11_best 61 rfl)
      have L33 : ∀ (nf : Nat) (xq13 : Int32) (xq14 : Int32) (xq15 : Int32) (mq12 : Mem) (H : Heap) (locs : List Loc) (ls : Array Slot), lv_has ls 8 [(0, .ref (G.2.1 + 78)), (1, .int (b2i a1)), (2, .int (b2i a2)), (4, .int xq13), (5, .int xq14), (6, .int xq15)] → Rp G mr0 N0 mq12 s H locs → F_M_best_L33 a1 k109_11 nf xq13 xq14 xq15 mq12 = some (v, m') → W p l e (rmD 3) s mid args below meth c H locs 0 0 (MQ below (QR G mr0 N0 (some (.int v)) m') args s 0 0 (fun q => G.2.1 ≤ q)) (F0 mid 33 ls []) := by
        intro nf
        induction nf with
        | zero =>
          intro xq13 xq14 xq15 mq12 H locs ls hl hR hF
          rw [F_M_best_L33] at hF
          cases hF
        | succ nf ihq17 =>
          intro xq13 xq14 xq15 mq12 H locs ls hl hR hF
          rw [F_M_best_L33] at hF
          refine lv_iload hx hb (dk DX11_best 20 rfl) (lv_at hl 5 rfl) ?_
          refine lv_iconst (v := (3 : Int32)) hx hb (dk DX11_best 21 rfl) (by decide) ?_
          refine lv_icmp_ge (tgt := 109) hx hb (dk DX11_best 22 rfl) (by decide) (fun c36 => ?_) (fun c36 => ?_)
          · have hF := if_t c36 hF
            exact J109 xq13 xq14 mq12 _ _ ls (lv_sub hl [2, 3, 4] rfl) hR hF
          · have hF := if_f c36 hF
            refine lv_iload_n hx hb (dk DX11_best 23 rfl) rfl (lv_at hl 1 rfl) ?_
            obtain ⟨k78_19, ek78_19, hF⟩ := lt_ex hF
            have J78 : ∀ (xq19 : Int32) (mq18 : Mem) (H : Heap) (locs : List Loc) (ls : Array Slot), lv_has ls 8 [(0, .ref (G.2.1 + 78)), (1, .int (b2i a1)), (2, .int (b2i a2)), (4, .int xq13), (5, .int xq14), (6, .int xq15)] → Rp G mr0 N0 mq18 s H locs → k78_19 xq19 mq18 = some (v, m') → W p l e (rmD 3) s mid args below meth c H locs 0 0 (MQ below (QR G mr0 N0 (some (.int v)) m') args s 0 0 (fun q => G.2.1 ≤ q)) (F0 mid 78 ls [.int xq19]) := by
              intro xq19 mq18 H locs ls hl hR hF
              rw [ek78_19] at hF
              refine lv_istore (lv' := [(7, .int xq19), (0, .ref (G.2.1 + 78)), (1, .int (b2i a1)), (2, .int (b2i a2)), (4, .int xq13), (5, .int xq14), (6, .int xq15)]) hx hb (dk DX11_best 43 rfl) hl (by decide) rfl (fun ls hl => ?_)
              refine lv_iload hx hb (dk DX11_best 44 rfl) (lv_at hl 4 rfl) ?_
              obtain ⟨k103_22, ek103_22, hF⟩ := lt_ex hF
              have J103 : ∀ (xq21 : Int32) (xq22 : Int32) (mq20 : Mem) (H : Heap) (locs : List Loc) (ls : Array Slot), lv_has ls 8 [(0, .ref (G.2.1 + 78)), (1, .int (b2i a1)), (2, .int (b2i a2)), (4, .int xq21), (5, .int xq22), (6, .int xq15)] → Rp G mr0 N0 mq20 s H locs → k103_22 xq21 xq22 mq20 = some (v, m') → W p l e (rmD 3) s mid args below meth c H locs 0 0 (MQ below (QR G mr0 N0 (some (.int v)) m') args s 0 0 (fun q => G.2.1 ≤ q)) (F0 mid 103 ls []) := by
                intro xq21 xq22 mq20 H locs ls hl hR hF
                rw [ek103_22] at hF
                obtain ⟨xq23, exq23, hF⟩ := lt_ex hF
                refine lv_iinc (v := xq23) (lv' := [(6, .int xq23), (0, .ref (G.2.1 + 78)), (1, .int (b2i a1)), (2, .int (b2i a2)), (4, .int xq21), (5, .int xq22)]) hx hb (dk DX11_best 54 rfl) hl (k := 5) rfl (by rw [exq23]; rfl) (by decide) rfl (fun ls hl => ?_)
                refine lv_goto (tgt := 33) hx hb (dk DX11_best 55 rfl) (by decide) ?_
                exact ihq17 xq21 xq22 xq23 mq20 _ _ ls (lv_sub hl [1, 2, 3, 4, 5, 0] rfl) hR hF
              obtain ⟨k95_24, ek95_24, hF⟩ := lt_ex hF
              have J95 : ∀ (mq24 : Mem) (H : Heap) (locs : List Loc) (ls : Array Slot), lv_has ls 8 [(0, .ref (G.2.1 + 78)), (1, .int (b2i a1)), (2, .int (b2i a2)), (6, .int xq15), (7, .int xq19)] → Rp G mr0 N0 mq24 s H locs → k95_24  mq24 = some (v, m') → W p l e (rmD 3) s mid args below meth c H locs 0 0 (MQ below (QR G mr0 N0 (some (.int v)) m') args s 0 0 (fun q => G.2.1 ≤ q)) (F0 mid 95 ls []) := by
                intro  mq24 H locs ls hl hR hF
                rw [ek95_24] at hF
                refine lv_iload hx hb (dk DX11_best 50 rfl) (lv_at hl 3 rfl) ?_
                refine lv_istore (lv' := [(4, .int xq15), (0, .ref (G.2.1 + 78)), (1, .int (b2i a1)), (2, .int (b2i a2)), (6, .int xq15), (7, .int xq19)]) hx hb (dk DX11_best 51 rfl) hl (by decide) rfl (fun ls hl => ?_)
                refine lv_iload hx hb (dk DX11_best 52 rfl) (lv_at hl 5 rfl) ?_
                refine lv_istore (lv' := [(5, .int xq19), (4, .int xq15), (0, .ref (G.2.1 + 78)), (1, .int (b2i a1)), (2, .int (b2i a2)), (6, .int xq15), (7, .int xq19)]) hx hb (dk DX11_best 53 rfl) hl (by decide) rfl (fun ls hl => ?_)
                exact J103 xq15 xq19 mq24 _ _ ls (lv_sub hl [2, 3, 4, 1, 0, 5] rfl) hR hF
              refine lv_if_lt (tgt := 95) hx hb (dk DX11_best 45 rfl) (by decide) (fun c82 => ?_) (fun c82 => ?_)
              · have hF := if_t c82 hF
                exact J95 mq18 _ _ ls (lv_sub hl [1, 2, 3, 6, 0] rfl) hR hF
              · have hF := if_f c82 hF
                refine lv_iload hx hb (dk DX11_best 46 rfl) (lv_at hl 0 rfl) ?_
                refine lv_iload hx hb (dk DX11_best 47 rfl) (lv_at hl 5 rfl) ?_
                refine lv_icmp_gt (tgt := 95) hx hb (dk DX11_best 48 rfl) (by decide) (fun c89 => ?_) (fun c89 => ?_)
                · have hF := if_t c89 hF
                  exact J95 mq18 _ _ ls (lv_sub hl [1, 2, 3, 6, 0] rfl) hR hF
                · have hF := if_f c89 hF
                  refine lv_goto (tgt := 103) hx hb (dk DX11_best 49 rfl) (by decide) ?_
                  exact J103 xq13 xq14 mq18 _ _ ls (lv_sub hl [1, 2, 3, 4, 5, 6] rfl) hR hF
            refine z_ifne (tgt := 53) hx hb (dk DX11_best 24 rfl) (by decide) (fun c40 => ?_) (fun c40 => ?_)
            · have hF := if_t c40 hF
              refine lv_aload_n hx hb (dk DX11_best 30 rfl) rfl (lv_at hl 0 rfl) ?_
              refine lv_iload hx hb (dk DX11_best 31 rfl) (lv_at hl 5 rfl) ?_
              refine lv_iconst (v := (2 : Int32)) hx hb (dk DX11_best 32 rfl) (by decide) ?_
              obtain ⟨k65_26, ek65_26, hF⟩ := lt_ex hF
              have J65 : ∀ (zq26 : Bool) (mq25 : Mem) (H : Heap) (locs : List Loc) (ls : Array Slot), lv_has ls 8 [(0, .ref (G.2.1 + 78)), (1, .int (b2i a1)), (2, .int (b2i a2)), (4, .int xq13), (5, .int xq14), (6, .int xq15)] → Rp G mr0 N0 mq25 s H locs → k65_26 zq26 mq25 = some (v, m') → W p l e (rmD 3) s mid args below meth c H locs 0 0 (MQ below (QR G mr0 N0 (some (.int v)) m') args s 0 0 (fun q => G.2.1 ≤ q)) (F0 mid 65 ls [.int (b2i zq26), .ref (G.2.1 + 78)]) := by
                intro zq26 mq25 H locs ls hl hR hF
                rw [ek65_26] at hF
                refine lv_iload hx hb (dk DX11_best 37 rfl) (lv_at hl 5 rfl) ?_
                obtain ⟨k75_28, ek75_28, hF⟩ := lt_ex hF
                have J75 : ∀ (xq28 : Int32) (mq27 : Mem) (H : Heap) (locs : List Loc) (ls : Array Slot), lv_has ls 8 [(0, .ref (G.2.1 + 78)), (1, .int (b2i a1)), (2, .int (b2i a2)), (4, .int xq13), (5, .int xq14), (6, .int xq15)] → Rp G mr0 N0 mq27 s H locs → k75_28 xq28 mq27 = some (v, m') → W p l e (rmD 3) s mid args below meth c H locs 0 0 (MQ below (QR G mr0 N0 (some (.int v)) m') args s 0 0 (fun q => G.2.1 ≤ q)) (F0 mid 75 ls [.int xq28, .int (b2i zq26), .ref (G.2.1 + 78)]) := by
                  intro xq28 mq27 H locs ls hl hR hF
                  rw [ek75_28] at hF
                  obtain ⟨xq31, mq29, hzq30, hF⟩ := bnd_ex hF
                  refine r_callVi (As := [.int (b2i zq26), .int xq28]) (rest := []) C hR (C_M_rightBy l hl0 G (b2i zq26) xq28 mq27 _ _ hzq30) (by decide) (by decide) ob78 rfl wX11_483 rfl rfl (Nat.le_of_ble_eq_true rfl) hl.1 ⟨Nat.zero_le _, Nat.zero_le _⟩ (dk DX11_best 42 rfl) (fun H locs hR => ?_)
                  exact J78 xq31 mq29 _ _ ls (lv_sub hl [0, 1, 2, 3, 4, 5] rfl) hR hF
                refine lv_if_ne (tgt := 74) hx hb (dk DX11_best 38 rfl) (by decide) (fun c67 => ?_) (fun c67 => ?_)
                · have hF := if_f c67 hF
                  refine lv_iconst (v := (2 : Int32)) hx hb (dk DX11_best 41 rfl) (by decide) ?_
                  exact J75 (2 : Int32) mq25 _ _ ls (lv_sub hl [0, 1, 2, 3, 4, 5] rfl) hR hF
                · have hF := if_t c67 hF
                  refine lv_iconst (v := (1 : Int32)) hx hb (dk DX11_best 39 rfl) (by decide) ?_
                  refine lv_goto (tgt := 75) hx hb (dk DX11_best 40 rfl) (by decide) ?_
                  exact J75 (1 : Int32) mq25 _ _ ls (lv_sub hl [0, 1, 2, 3, 4, 5] rfl) hR hF
              refine lv_icmp_ne (tgt := 64) hx hb (dk DX11_best 33 rfl) (by decide) (fun c57 => ?_) (fun c57 => ?_)
              · have hF := if_f c57 hF
                refine lv_iconst (v := (0 : Int32)) hx hb (dk DX11_best 36 rfl) (by decide) ?_
                exact J65 false mq12 _ _ ls (lv_sub hl [0, 1, 2, 3, 4, 5] rfl) hR hF
              · have hF := if_t c57 hF
                refine lv_iconst (v := (1 : Int32)) hx hb (dk DX11_best 34 rfl) (by decide) ?_
                refine lv_goto (tgt := 65) hx hb (dk DX11_best 35 rfl) (by decide) ?_
                exact J65 true mq12 _ _ ls (lv_sub hl [0, 1, 2, 3, 4, 5] rfl) hR hF
            · have hF := if_f c40 hF
              refine lv_aload_n hx hb (dk DX11_best 25 rfl) rfl (lv_at hl 0 rfl) ?_
              refine lv_iload hx hb (dk DX11_best 26 rfl) (lv_at hl 5 rfl) ?_
              refine lv_iconst (v := (-1 : Int32)) hx hb (dk DX11_best 27 rfl) (by decide) ?_
              obtain ⟨xq34, mq32, hzq33, hF⟩ := bnd_ex hF
              refine r_callVi (As := [.int xq15, .int (-1 : Int32)]) (rest := []) C hR (C_M_rightBy l hl0 G xq15 (-1 : Int32) mq12 _ _ hzq33) (by decide) (by decide) ob78 rfl wX11_483 rfl rfl (Nat.le_of_ble_eq_true rfl) hl.1 ⟨Nat.zero_le _, Nat.zero_le _⟩ (dk DX11_best 28 rfl) (fun H locs hR => ?_)
              refine lv_goto (tgt := 78) hx hb (dk DX11_best 29 rfl) (by decide) ?_
              exact J78 xq34 mq32 _ _ ls (lv_sub hl [0, 1, 2, 3, 4, 5] rfl) hR hF
      exact L33 1000000 (-1 : Int32) (0 : Int32) (0 : Int32) mq6 _ _ ls (lv_sub hl [3, 4, 5, 2, 1, 0] rfl) hR hF
    · have hF := if_t c19 hF
      refine lv_iconst (v := (0 : Int32)) hx hb (dk DX11_best 12 rfl) (by decide) ?_
      cases hF
      exact r_iret C hrt hR (dk DX11_best 13 rfl)
  refine z_ifne (tgt := 14) hx hb (dk DX11_best 5 rfl) (by decide) (fun c7 => ?_) (fun c7 => ?_)
  · have hF := if_t c7 hF
    refine lv_iconst (v := (0 : Int32)) hx hb (dk DX11_best 8 rfl) (by decide) ?_
    exact J15 false mq1 _ _ ls (lv_sub hl [1, 2, 3] rfl) hR hF
  · have hF := if_f c7 hF
    refine lv_iconst (v := (1 : Int32)) hx hb (dk DX11_best 6 rfl) (by decide) ?_
    refine lv_goto (tgt := 15) hx hb (dk DX11_best 7 rfl) (by decide) ?_
    exact J15 true mq1 _ _ ls (lv_sub hl [1, 2, 3] rfl) hR hF
