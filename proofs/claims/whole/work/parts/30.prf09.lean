set_option maxHeartbeats 4000000 in
set_option maxRecDepth 100000 in
theorem C_M_chooses (l : Launch) (hl0 : l.stackTraces = false) (G : GG) (a1 : Int32) (a2 : Int32) (a3 : Int32) (a4 : Int32) (m0 : Mem) (v : Bool) (m' : Mem) (hF : F_M_chooses a1 a2 a3 a4 m0 = some (v, m')) : Ct l G mr0 N0 yX11_chooses cX11_chooses 9 (some .boolean) 7 [.ref (G.2.1 + 78), .int a1, .int a2, .int a3, .int a4] m0 (some (.int (b2i v))) m' := by
  refine Ct_of hl0 (by decide) (Nat.le_of_ble_eq_true rfl) ?_
  intro p e s mid args below meth c ls C hrt hl hR
  have hx := C.1.1
  have hb := C.1.2.1
  have hl : lv_has ls 9 [(0, .ref (G.2.1 + 78)), (1, .int a1), (2, .int a2), (3, .int a3), (4, .int a4)] := hl
  unfold F_M_chooses at hF
  refine lv_aload_n hx hb (dk DX11_chooses 0 rfl) rfl (lv_at hl 0 rfl) ?_
  refine gX11_340 C hR ob78 (dk DX11_chooses 1 rfl) ?_
  refine lv_topi (fun x1 ex1 => ?_)
  have hF := lt_at ex1 hF
  refine lv_istore (lv' := [(5, .int x1), (0, .ref (G.2.1 + 78)), (1, .int a1), (2, .int a2), (3, .int a3), (4, .int a4)]) hx hb (dk DX11_chooses 2 rfl) hl (by decide) rfl (fun ls hl => ?_)
  refine lv_aload_n hx hb (dk DX11_chooses 3 rfl) rfl (lv_at hl 1 rfl) ?_
  refine gX11_343 C hR ob78 (dk DX11_chooses 4 rfl) ?_
  refine lv_topi (fun x2 ex2 => ?_)
  have hF := lt_at ex2 hF
  refine lv_istore (lv' := [(6, .int x2), (5, .int x1), (0, .ref (G.2.1 + 78)), (1, .int a1), (2, .int a2), (3, .int a3), (4, .int a4)]) hx hb (dk DX11_chooses 5 rfl) hl (by decide) rfl (fun ls hl => ?_)
  refine lv_aload_n hx hb (dk DX11_chooses 6 rfl) rfl (lv_at hl 2 rfl) ?_
  refine lv_iload_n hx hb (dk DX11_chooses 7 rfl) rfl (lv_at hl 3 rfl) ?_
  obtain ⟨y5, m3, hz4, hF⟩ := bnd_ex hF
  refine r_callVl (As := [.int a1]) (rest := []) C hR (C_M_got l hl0 G a1 m0 _ _ hz4) (by decide) (by decide) ob78 rfl wX11_382 rfl rfl (Nat.le_of_ble_eq_true rfl) hl.1 ⟨Nat.zero_le _, Nat.zero_le _⟩ (dk DX11_chooses 8 rfl) (fun H locs hR => ?_)
  refine lv_lstore (lv' := [(7, .long y5), (6, .int x2), (5, .int x1), (0, .ref (G.2.1 + 78)), (1, .int a1), (2, .int a2), (3, .int a3), (4, .int a4)]) hx hb (dk DX11_chooses 9 rfl) hl (by decide) rfl (fun ls hl => ?_)
  refine lv_aload_n hx hb (dk DX11_chooses 10 rfl) rfl (lv_at hl 3 rfl) ?_
  refine lv_iload_n hx hb (dk DX11_chooses 11 rfl) rfl (lv_at hl 4 rfl) ?_
  refine lv_iload_n hx hb (dk DX11_chooses 12 rfl) rfl (lv_at hl 5 rfl) ?_
  refine lv_iload_n hx hb (dk DX11_chooses 13 rfl) rfl (lv_at hl 6 rfl) ?_
  refine lv_iload hx hb (dk DX11_chooses 14 rfl) (lv_at hl 7 rfl) ?_
  obtain ⟨u8, m6, hz7, hF⟩ := bnd_ex hF
  refine r_callVv (As := [.int a1, .int a2, .int a3, .int a4]) (rest := []) C hR (C_M_tries l hl0 G a1 a2 a3 a4 m3 _ _ hz7) (by decide) (by decide) ob78 rfl wX11_386 rfl rfl (Nat.le_of_ble_eq_true rfl) hl.1 ⟨Nat.zero_le _, Nat.zero_le _⟩ (dk DX11_chooses 15 rfl) (fun H locs hR => ?_)
  refine lv_aload_n hx hb (dk DX11_chooses 16 rfl) rfl (lv_at hl 3 rfl) ?_
  refine lv_iload_n hx hb (dk DX11_chooses 17 rfl) rfl (lv_at hl 4 rfl) ?_
  obtain ⟨y11, m9, hz10, hF⟩ := bnd_ex hF
  refine r_callVl (As := [.int a1]) (rest := []) C hR (C_M_got l hl0 G a1 m6 _ _ hz10) (by decide) (by decide) ob78 rfl wX11_382 rfl rfl (Nat.le_of_ble_eq_true rfl) hl.1 ⟨Nat.zero_le _, Nat.zero_le _⟩ (dk DX11_chooses 18 rfl) (fun H locs hR => ?_)
  refine lv_lload hx hb (dk DX11_chooses 19 rfl) (lv_at hl 0 rfl) ?_
  refine l_ifle (tgt := 41) hx hb (dk DX11_chooses 20 rfl) (dk DX11_chooses 21 rfl) (by decide) (fun c35 => ?_) (fun c35 => ?_)
  · have hF := if_t c35 hF
    refine lv_aload_n hx hb (dk DX11_chooses 24 rfl) rfl (lv_at hl 3 rfl) ?_
    refine lv_iload hx hb (dk DX11_chooses 25 rfl) (lv_at hl 2 rfl) ?_
    refine pX11_340 (x := x1) C hR ob78 (dk DX11_chooses 26 rfl) (fun H locs hR => ?_)
    obtain ⟨m12, em12, hF⟩ := lt_ex hF
    have hR := Rp_at em12 hR
    refine lv_aload_n hx hb (dk DX11_chooses 27 rfl) rfl (lv_at hl 3 rfl) ?_
    refine lv_iload hx hb (dk DX11_chooses 28 rfl) (lv_at hl 1 rfl) ?_
    refine pX11_343 (x := x2) C hR ob78 (dk DX11_chooses 29 rfl) (fun H locs hR => ?_)
    obtain ⟨m13, em13, hF⟩ := lt_ex hF
    have hR := Rp_at em13 hR
    refine lv_iconst (v := (0 : Int32)) hx hb (dk DX11_chooses 30 rfl) (by decide) ?_
    cases hF
    exact r_zret (v := false) C hrt hR (dk DX11_chooses 31 rfl)
  · have hF := if_f c35 hF
    refine lv_iconst (v := (1 : Int32)) hx hb (dk DX11_chooses 22 rfl) (by decide) ?_
    cases hF
    exact r_zret (v := true) C hrt hR (dk DX11_chooses 23 rfl)
set_option maxHeartbeats 4000000 in
set_option maxRecDepth 100000 in
theorem C_M_counts (l : Launch) (hl0 : l.stackTraces = false) (G : GG) (a1 : Int32) (a2 : Int32) (a3 : Int32) (a4 : Int32) (m0 : Mem) (v : Unit) (m' : Mem) (hF : F_M_counts a1 a2 a3 a4 m0 = some (v, m')) : Ct l G mr0 N0 yX11_counts cX11_counts 5 none 8 [.ref (G.2.1 + 78), .int a1, .int a2, .int a3, .int a4] m0 none m' := by
  refine Ct_of hl0 (by decide) (Nat.le_of_ble_eq_true rfl) ?_
  intro p e s mid args below meth c ls C hrt hl hR
  have hx := C.1.1
  have hb := C.1.2.1
  have hl : lv_has ls 5 [(0, .ref (G.2.1 + 78)), (1, .int a1), (2, .int a2), (3, .int a3), (4, .int a4)] := hl
  unfold F_M_counts at hF
  refine lv_iload_n hx hb (dk DX11_counts 0 rfl) rfl (lv_at hl 2 rfl) ?_
  refine lv_iconst (v := (3 : Int32)) hx hb (dk DX11_counts 1 rfl) (by decide) ?_
  obtain ⟨k25_1, ek25_1, hF⟩ := lt_ex hF
  have J25 : ∀ (m1 : Mem) (H : Heap) (locs : List Loc) (ls : Array Slot), lv_has ls 5 [(0, .ref (G.2.1 + 78)), (1, .int a1), (2, .int a2), (3, .int a3), (4, .int a4)] → Rp G mr0 N0 m1 s H locs → k25_1  m1 = some (v, m') → W p l e (rmD 8) s mid args below meth c H locs 0 0 (MQ below (QR G mr0 N0 none m') args s 0 0 (fun q => G.2.1 ≤ q)) (F0 mid 25 ls []) := by
    intro  m1 H locs ls hl hR hF
    rw [ek25_1] at hF
    refine lv_aload_n hx hb (dk DX11_counts 14 rfl) rfl (lv_at hl 0 rfl) ?_
    refine lv_iload_n hx hb (dk DX11_counts 15 rfl) rfl (lv_at hl 1 rfl) ?_
    refine lv_iload_n hx hb (dk DX11_counts 16 rfl) rfl (lv_at hl 2 rfl) ?_
    refine lv_iload_n hx hb (dk DX11_counts 17 rfl) rfl (lv_at hl 3 rfl) ?_
    refine lv_iload hx hb (dk DX11_counts 18 rfl) (lv_at hl 4 rfl) ?_
    refine lv_iconst (v := (0 : Int32)) hx hb (dk DX11_counts 19 rfl) (by decide) ?_
    obtain ⟨u4, m2, hz3, hF⟩ := bnd_ex hF
    refine r_callVv (As := [.int a1, .int a2, .int a3, .int a4, .int (b2i false)]) (rest := []) C hR (C_M_goesOn l hl0 G a1 a2 a3 a4 false m1 _ _ hz3) (by decide) (by decide) ob78 rfl wX11_368 rfl rfl (Nat.le_of_ble_eq_true rfl) hl.1 ⟨Nat.zero_le _, Nat.zero_le _⟩ (dk DX11_counts 20 rfl) (fun H locs hR => ?_)
    refine lv_aload_n hx hb (dk DX11_counts 21 rfl) rfl (lv_at hl 0 rfl) ?_
    refine gX11_390 C hR ob78 (dk DX11_counts 22 rfl) ?_
    refine z_ifne (tgt := 52) hx hb (dk DX11_counts 23 rfl) (by decide) (fun c39 => ?_) (fun c39 => ?_)
    · have hF := if_t c39 hF
      cases hF
      exact r_vret C hrt hR (dk DX11_counts 31 rfl)
    · have hF := if_f c39 hF
      refine lv_aload_n hx hb (dk DX11_counts 24 rfl) rfl (lv_at hl 0 rfl) ?_
      refine lv_iload_n hx hb (dk DX11_counts 25 rfl) rfl (lv_at hl 1 rfl) ?_
      refine lv_iload_n hx hb (dk DX11_counts 26 rfl) rfl (lv_at hl 2 rfl) ?_
      refine lv_iload_n hx hb (dk DX11_counts 27 rfl) rfl (lv_at hl 3 rfl) ?_
      refine lv_iload hx hb (dk DX11_counts 28 rfl) (lv_at hl 4 rfl) ?_
      obtain ⟨z7, m5, hz6, hF⟩ := bnd_ex hF
      refine r_callVi (As := [.int a1, .int a2, .int a3, .int a4]) (rest := []) C hR (C_M_chooses l hl0 G a1 a2 a3 a4 m2 _ _ hz6) (by decide) (by decide) ob78 rfl wX11_393 rfl rfl (Nat.le_of_ble_eq_true rfl) hl.1 ⟨Nat.zero_le _, Nat.zero_le _⟩ (dk DX11_counts 29 rfl) (fun H locs hR => ?_)
      refine lv_pop hx hb (dk DX11_counts 30 rfl) rfl ?_
      cases hF
      exact r_vret C hrt hR (dk DX11_counts 31 rfl)
  refine lv_icmp_le (tgt := 25) hx hb (dk DX11_counts 2 rfl) (by decide) (fun c2 => ?_) (fun c2 => ?_)
  · have hF := if_t c2 hF
    exact J25 m0 _ _ ls (lv_sub hl [0, 1, 2, 3, 4] rfl) hR hF
  · have hF := if_f c2 hF
    refine lv_iload hx hb (dk DX11_counts 3 rfl) (lv_at hl 4 rfl) ?_
    refine lv_if_le (tgt := 25) hx hb (dk DX11_counts 4 rfl) (by decide) (fun c7 => ?_) (fun c7 => ?_)
    · have hF := if_t c7 hF
      exact J25 m0 _ _ ls (lv_sub hl [0, 1, 2, 3, 4] rfl) hR hF
    · have hF := if_f c7 hF
      refine lv_aload_n hx hb (dk DX11_counts 5 rfl) rfl (lv_at hl 0 rfl) ?_
      refine lv_aload_n hx hb (dk DX11_counts 6 rfl) rfl (lv_at hl 0 rfl) ?_
      refine lv_iload_n hx hb (dk DX11_counts 7 rfl) rfl (lv_at hl 1 rfl) ?_
      obtain ⟨x10, m8, hz9, hF⟩ := bnd_ex hF
      refine r_callVi (As := [.int a1]) (rest := [.ref (G.2.1 + 78)]) C hR (C_M_all l hl0 G a1 m0 _ _ hz9) (by decide) (by decide) ob78 rfl wX11_337 rfl rfl (Nat.le_of_ble_eq_true rfl) hl.1 ⟨Nat.zero_le _, Nat.zero_le _⟩ (dk DX11_counts 8 rfl) (fun H locs hR => ?_)
      refine pX11_340 (x := x10) C hR ob78 (dk DX11_counts 9 rfl) (fun H locs hR => ?_)
      obtain ⟨m11, em11, hF⟩ := lt_ex hF
      have hR := Rp_at em11 hR
      refine lv_aload_n hx hb (dk DX11_counts 10 rfl) rfl (lv_at hl 0 rfl) ?_
      refine lv_iconst (v := (0 : Int32)) hx hb (dk DX11_counts 11 rfl) (by decide) ?_
      refine pX11_343 (x := (0 : Int32)) C hR ob78 (dk DX11_counts 12 rfl) (fun H locs hR => ?_)
      obtain ⟨m12, em12, hF⟩ := lt_ex hF
      have hR := Rp_at em12 hR
      cases hF
      exact r_vret C hrt hR (dk DX11_counts 13 rfl)
set_option maxHeartbeats 4000000 in
set_option maxRecDepth 100000 in
theorem C_M_layers (l : Launch) (hl0 : l.stackTraces = false) (G : GG) (a1 : Int32) (a2 : Int32) (a3 : Int32) (m0 : Mem) (v : Unit) (m' : Mem) (hF : F_M_layers a1 a2 a3 m0 = some (v, m')) : Ct l G mr0 N0 yX11_layers cX11_layers 10 none 9 [.ref (G.2.1 + 78), .int a1, .int a2, .int a3] m0 none m' := by
  refine Ct_of hl0 (by decide) (Nat.le_of_ble_eq_true rfl) ?_
  intro p e s mid args below meth c ls C hrt hl hR
  have hx := C.1.1
  have hb := C.1.2.1
  have hl : lv_has ls 10 [(0, .ref (G.2.1 + 78)), (1, .int a1), (2, .int a2), (3, .int a3)] := hl
  unfold F_M_layers at hF
  refine lv_aload_n hx hb (dk DX11_layers 0 rfl) rfl (lv_at hl 0 rfl) ?_
  refine lv_iload_n hx hb (dk DX11_layers 1 rfl) rfl (lv_at hl 1 rfl) ?_
  refine pX11_326 (x := a1) C hR ob78 (dk DX11_layers 2 rfl) (fun H locs hR => ?_)
  obtain ⟨m1, em1, hF⟩ := lt_ex hF
  have hR := Rp_at em1 hR
  refine lv_aload_n hx hb (dk DX11_layers 3 rfl) rfl (lv_at hl 0 rfl) ?_
  obtain ⟨x4, m2, hz3, hF⟩ := bnd_ex hF
  refine r_callVi (As := []) (rest := []) C hR (C_M_mostRuns l hl0 G m1 _ _ hz3) (by decide) (by decide) ob78 rfl wX11_396 rfl rfl (Nat.le_of_ble_eq_true rfl) hl.1 ⟨Nat.zero_le _, Nat.zero_le _⟩ (dk DX11_layers 4 rfl) (fun H locs hR => ?_)
  refine lv_istore (lv' := [(4, .int x4), (0, .ref (G.2.1 + 78)), (1, .int a1), (2, .int a2), (3, .int a3)]) hx hb (dk DX11_layers 5 rfl) hl (by decide) rfl (fun ls hl => ?_)
  refine lv_aload_n hx hb (dk DX11_layers 6 rfl) rfl (lv_at hl 1 rfl) ?_
  obtain ⟨x7, m5, hz6, hF⟩ := bnd_ex hF
  refine r_callVi (As := []) (rest := []) C hR (C_M_size l hl0 G m2 _ _ hz6) (by decide) (by decide) ob78 rfl wX11_63 rfl rfl (Nat.le_of_ble_eq_true rfl) hl.1 ⟨Nat.zero_le _, Nat.zero_le _⟩ (dk DX11_layers 7 rfl) (fun H locs hR => ?_)
  refine lv_iconst (v := (1 : Int32)) hx hb (dk DX11_layers 8 rfl) (by decide) ?_
  refine lv_isub hx hb (dk DX11_layers 9 rfl) ?_
  refine lv_topi (fun x8 ex8 => ?_)
  have hF := lt_at ex8 hF
  refine lv_istore (lv' := [(5, .int x8), (4, .int x4), (0, .ref (G.2.1 + 78)), (1, .int a1), (2, .int a2), (3, .int a3)]) hx hb (dk DX11_layers 10 rfl) hl (by decide) rfl (fun ls hl => ?_)
  have L19 : ∀ (nf : Nat) (x10 : Int32) (m9 : Mem) (H : Heap) (locs : List Loc) (ls : Array Slot), lv_has ls 10 [(0, .ref (G.2.1 + 78)), (2, .int a2), (3, .int a3), (4, .int x4), (5, .int x10)] → Rp G mr0 N0 m9 s H locs → F_M_layers_L19 a2 a3 x4 nf x10 m9 = some (v, m') → W p l e (rmD 9) s mid args below meth c H locs 0 0 (MQ below (QR G mr0 N0 none m') args s 0 0 (fun q => G.2.1 ≤ q)) (F0 mid 19 ls []) := by
    intro nf
    induction nf with
    | zero =>
      intro x10 m9 H locs ls hl hR hF
      rw [F_M_layers_L19] at hF
      cases hF
    | succ nf ih12 =>
      intro x10 m9 H locs ls hl hR hF
      rw [F_M_layers_L19] at hF
      refine lv_iload hx hb (dk DX11_layers 11 rfl) (lv_at hl 4 rfl) ?_
      refine lv_iload_n hx hb (dk DX11_layers 12 rfl) rfl (lv_at hl 1 rfl) ?_
      refine lv_icmp_lt (tgt := 154) hx hb (dk DX11_layers 13 rfl) (by decide) (fun c22 => ?_) (fun c22 => ?_)
      · have hF := if_t c22 hF
        cases hF
        exact r_vret C hrt hR (dk DX11_layers 76 rfl)
      · have hF := if_f c22 hF
        refine lv_aload_n hx hb (dk DX11_layers 14 rfl) rfl (lv_at hl 0 rfl) ?_
        refine lv_iload hx hb (dk DX11_layers 15 rfl) (lv_at hl 4 rfl) ?_
        obtain ⟨u15, m13, hz14, hF⟩ := bnd_ex hF
        refine r_callVv (As := [.int x10]) (rest := []) C hR (C_M_laysLevels l hl0 G x10 m9 _ _ hz14) (by decide) (by decide) ob78 rfl wX11_399 rfl rfl (Nat.le_of_ble_eq_true rfl) hl.1 ⟨Nat.zero_le _, Nat.zero_le _⟩ (dk DX11_layers 16 rfl) (fun H locs hR => ?_)
        refine lv_sipush (v := (162 : Int32)) hx hb (dk DX11_layers 17 rfl) (by decide) ?_
        refine lv_iload_n hx hb (dk DX11_layers 18 rfl) rfl (lv_at hl 2 rfl) ?_
        refine lv_iload hx hb (dk DX11_layers 19 rfl) (lv_at hl 3 rfl) ?_
        refine lv_iload hx hb (dk DX11_layers 20 rfl) (lv_at hl 4 rfl) ?_
        refine lv_iload_n hx hb (dk DX11_layers 21 rfl) rfl (lv_at hl 1 rfl) ?_
        refine lv_isub hx hb (dk DX11_layers 22 rfl) ?_
        refine lv_imul hx hb (dk DX11_layers 23 rfl) ?_
        refine lv_iadd hx hb (dk DX11_layers 24 rfl) ?_
        refine r_mnI C (gd q1929 rfl) (by decide) (Nat.le_of_ble_eq_true rfl) hl.1 ⟨Nat.zero_le _, Nat.zero_le _⟩ (dk DX11_layers 25 rfl) ?_
        refine lv_topi (fun x16 ex16 => ?_)
        have hF := lt_at ex16 hF
        refine lv_istore (lv' := [(6, .int x16), (0, .ref (G.2.1 + 78)), (2, .int a2), (3, .int a3), (4, .int x4), (5, .int x10)]) hx hb (dk DX11_layers 26 rfl) hl (by decide) rfl (fun ls hl => ?_)
        refine lv_iconst (v := (5 : Int32)) hx hb (dk DX11_layers 27 rfl) (by decide) ?_
        refine lv_istore (lv' := [(7, .int (5 : Int32)), (6, .int x16), (0, .ref (G.2.1 + 78)), (2, .int a2), (3, .int a3), (4, .int x4), (5, .int x10)]) hx hb (dk DX11_layers 28 rfl) hl (by decide) rfl (fun ls hl => ?_)
        obtain ⟨k148_17, ek148_17, hF⟩ := lt_ex hF
        have J148 : ∀ (m17 : Mem) (H : Heap) (locs : List Loc) (ls : Array Slot), lv_has ls 10 [(0, .ref (G.2.1 + 78)), (2, .int a2), (3, .int a3), (4, .int x4), (5, .int x10)] → Rp G mr0 N0 m17 s H locs → k148_17  m17 = some (v, m') → W p l e (rmD 9) s mid args below meth c H locs 0 0 (MQ below (QR G mr0 N0 none m') args s 0 0 (fun q => G.2.1 ≤ q)) (F0 mid 148 ls []) := by
          intro  m17 H locs ls hl hR hF
          rw [ek148_17] at hF
          obtain ⟨x18, ex18, hF⟩ := lt_ex hF
          refine lv_iinc (v := x18) (lv' := [(5, .int x18), (0, .ref (G.2.1 + 78)), (2, .int a2), (3, .int a3), (4, .int x4)]) hx hb (dk DX11_layers 74 rfl) hl (k := 4) rfl (by rw [ex18]; rfl) (by decide) rfl (fun ls hl => ?_)
          refine lv_goto (tgt := 19) hx hb (dk DX11_layers 75 rfl) (by decide) ?_
          exact ih12 x18 m17 _ _ ls (lv_sub hl [1, 2, 3, 4, 0] rfl) hR hF
        have L51 : ∀ (nf : Nat) (x20 : Int32) (m19 : Mem) (H : Heap) (locs : List Loc) (ls : Array Slot), lv_has ls 10 [(0, .ref (G.2.1 + 78)), (2, .int a2), (3, .int a3), (4, .int x4), (5, .int x10), (6, .int x16), (7, .int x20)] → Rp G mr0 N0 m19 s H locs → F_M_layers_L51 x10 x16 k148_17 nf x20 m19 = some (v, m') → W p l e (rmD 9) s mid args below meth c H locs 0 0 (MQ below (QR G mr0 N0 none m') args s 0 0 (fun q => G.2.1 ≤ q)) (F0 mid 51 ls []) := by
          intro nf
          induction nf with
          | zero =>
            intro x20 m19 H locs ls hl hR hF
            rw [F_M_layers_L51] at hF
            cases hF
          | succ nf ih22 =>
            intro x20 m19 H locs ls hl hR hF
            rw [F_M_layers_L51] at hF
            refine lv_iload hx hb (dk DX11_layers 29 rfl) (lv_at hl 6 rfl) ?_
            refine lv_if_lt (tgt := 148) hx hb (dk DX11_layers 30 rfl) (by decide) (fun c53 => ?_) (fun c53 => ?_)
            · have hF := if_t c53 hF
              exact J148 m19 _ _ ls (lv_sub hl [0, 1, 2, 3, 4] rfl) hR hF
            · have hF := if_f c53 hF
              refine lv_iconst (v := (0 : Int32)) hx hb (dk DX11_layers 31 rfl) (by decide) ?_
              refine lv_istore (lv' := [(8, .int (0 : Int32)), (0, .ref (G.2.1 + 78)), (2, .int a2), (3, .int a3), (4, .int x4), (5, .int x10), (6, .int x16), (7, .int x20)]) hx hb (dk DX11_layers 32 rfl) hl (by decide) rfl (fun ls hl => ?_)
              obtain ⟨k142_23, ek142_23, hF⟩ := lt_ex hF
              have J142 : ∀ (m23 : Mem) (H : Heap) (locs : List Loc) (ls : Array Slot), lv_has ls 10 [(0, .ref (G.2.1 + 78)), (2, .int a2), (3, .int a3), (4, .int x4), (5, .int x10), (6, .int x16), (7, .int x20)] → Rp G mr0 N0 m23 s H locs → k142_23  m23 = some (v, m') → W p l e (rmD 9) s mid args below meth c H locs 0 0 (MQ below (QR G mr0 N0 none m') args s 0 0 (fun q => G.2.1 ≤ q)) (F0 mid 142 ls []) := by
                intro  m23 H locs ls hl hR hF
                rw [ek142_23] at hF
                obtain ⟨x24, ex24, hF⟩ := lt_ex hF
                refine lv_iinc (v := x24) (lv' := [(7, .int x24), (0, .ref (G.2.1 + 78)), (2, .int a2), (3, .int a3), (4, .int x4), (5, .int x10), (6, .int x16)]) hx hb (dk DX11_layers 72 rfl) hl (k := 6) rfl (by rw [ex24]; rfl) (by decide) rfl (fun ls hl => ?_)
                refine lv_goto (tgt := 51) hx hb (dk DX11_layers 73 rfl) (by decide) ?_
                exact ih22 x24 m23 _ _ ls (lv_sub hl [1, 2, 3, 4, 5, 6, 0] rfl) hR hF
              have L59 : ∀ (nf : Nat) (x26 : Int32) (m25 : Mem) (H : Heap) (locs : List Loc) (ls : Array Slot), lv_has ls 10 [(0, .ref (G.2.1 + 78)), (2, .int a2), (3, .int a3), (4, .int x4), (5, .int x10), (6, .int x16), (7, .int x20), (8, .int x26)] → Rp G mr0 N0 m25 s H locs → F_M_layers_L59 x10 x16 x20 k142_23 nf x26 m25 = some (v, m') → W p l e (rmD 9) s mid args below meth c H locs 0 0 (MQ below (QR G mr0 N0 none m') args s 0 0 (fun q => G.2.1 ≤ q)) (F0 mid 59 ls []) := by
                intro nf
                induction nf with
                | zero =>
                  intro x26 m25 H locs ls hl hR hF
                  rw [F_M_layers_L59] at hF
                  cases hF
                | succ nf ih28 =>
                  intro x26 m25 H locs ls hl hR hF
                  rw [F_M_layers_L59] at hF
                  refine lv_iload hx hb (dk DX11_layers 33 rfl) (lv_at hl 7 rfl) ?_
                  refine lv_bipush (v := (10 : Int32)) hx hb (dk DX11_layers 34 rfl) (by decide) ?_
                  refine lv_icmp_gt (tgt := 142) hx hb (dk DX11_layers 35 rfl) (by decide) (fun c63 => ?_) (fun c63 => ?_)
                  · have hF := if_t c63 hF
                    exact J142 m25 _ _ ls (lv_sub hl [0, 1, 2, 3, 4, 5, 6] rfl) hR hF
                  · have hF := if_f c63 hF
                    refine lv_iload hx hb (dk DX11_layers 36 rfl) (lv_at hl 5 rfl) ?_
                    refine lv_ineg hx hb (dk DX11_layers 37 rfl) ?_
                    refine lv_topi (fun x29 ex29 => ?_)
                    have hF := lt_at ex29 hF
                    refine lv_istore (lv' := [(9, .int x29), (0, .ref (G.2.1 + 78)), (2, .int a2), (3, .int a3), (4, .int x4), (5, .int x10), (6, .int x16), (7, .int x20), (8, .int x26)]) hx hb (dk DX11_layers 38 rfl) hl (by decide) rfl (fun ls hl => ?_)
                    obtain ⟨k136_30, ek136_30, hF⟩ := lt_ex hF
                    have J136 : ∀ (m30 : Mem) (H : Heap) (locs : List Loc) (ls : Array Slot), lv_has ls 10 [(0, .ref (G.2.1 + 78)), (2, .int a2), (3, .int a3), (4, .int x4), (5, .int x10), (6, .int x16), (7, .int x20), (8, .int x26)] → Rp G mr0 N0 m30 s H locs → k136_30  m30 = some (v, m') → W p l e (rmD 9) s mid args below meth c H locs 0 0 (MQ below (QR G mr0 N0 none m') args s 0 0 (fun q => G.2.1 ≤ q)) (F0 mid 136 ls []) := by
                      intro  m30 H locs ls hl hR hF
                      rw [ek136_30] at hF
                      obtain ⟨x31, ex31, hF⟩ := lt_ex hF
                      refine lv_iinc (v := x31) (lv' := [(8, .int x31), (0, .ref (G.2.1 + 78)), (2, .int a2), (3, .int a3), (4, .int x4), (5, .int x10), (6, .int x16), (7, .int x20)]) hx hb (dk DX11_layers 70 rfl) hl (k := 7) rfl (by rw [ex31]; rfl) (by decide) rfl (fun ls hl => ?_)
                      refine lv_goto (tgt := 59) hx hb (dk DX11_layers 71 rfl) (by decide) ?_
                      exact ih28 x31 m30 _ _ ls (lv_sub hl [1, 2, 3, 4, 5, 6, 7, 0] rfl) hR hF
                    have L71 : ∀ (nf : Nat) (x33 : Int32) (m32 : Mem) (H : Heap) (locs : List Loc) (ls : Array Slot), lv_has ls 10 [(0, .ref (G.2.1 + 78)), (2, .int a2), (3, .int a3), (4, .int x4), (5, .int x10), (6, .int x16), (7, .int x20), (8, .int x26), (9, .int x33)] → Rp G mr0 N0 m32 s H locs → F_M_layers_L71 x10 x16 x20 x26 k136_30 nf x33 m32 = some (v, m') → W p l e (rmD 9) s mid args below meth c H locs 0 0 (MQ below (QR G mr0 N0 none m') args s 0 0 (fun q => G.2.1 ≤ q)) (F0 mid 71 ls []) := by
                      intro nf
                      induction nf with
                      | zero =>
                        intro x33 m32 H locs ls hl hR hF
                        rw [F_M_layers_L71] at hF
                        cases hF
                      | succ nf ih35 =>
                        intro x33 m32 H locs ls hl hR hF
                        rw [F_M_layers_L71] at hF
                        refine lv_iload hx hb (dk DX11_layers 39 rfl) (lv_at hl 8 rfl) ?_
                        refine lv_iload hx hb (dk DX11_layers 40 rfl) (lv_at hl 5 rfl) ?_
                        refine lv_icmp_gt (tgt := 136) hx hb (dk DX11_layers 41 rfl) (by decide) (fun c75 => ?_) (fun c75 => ?_)
                        · have hF := if_t c75 hF
                          exact J136 m32 _ _ ls (lv_sub hl [0, 1, 2, 3, 4, 5, 6, 7] rfl) hR hF
                        · have hF := if_f c75 hF
                          refine lv_aload_n hx hb (dk DX11_layers 42 rfl) rfl (lv_at hl 0 rfl) ?_
                          refine lv_iload hx hb (dk DX11_layers 43 rfl) (lv_at hl 4 rfl) ?_
                          refine lv_iload hx hb (dk DX11_layers 44 rfl) (lv_at hl 6 rfl) ?_
                          refine lv_iload hx hb (dk DX11_layers 45 rfl) (lv_at hl 7 rfl) ?_
                          refine lv_iload hx hb (dk DX11_layers 46 rfl) (lv_at hl 8 rfl) ?_
                          obtain ⟨u38, m36, hz37, hF⟩ := bnd_ex hF
                          refine r_callVv (As := [.int x10, .int x20, .int x26, .int x33]) (rest := []) C hR (C_M_counts l hl0 G x10 x20 x26 x33 m32 _ _ hz37) (by decide) (by decide) ob78 rfl wX11_403 rfl rfl (Nat.le_of_ble_eq_true rfl) hl.1 ⟨Nat.zero_le _, Nat.zero_le _⟩ (dk DX11_layers 47 rfl) (fun H locs hR => ?_)
                          refine lv_aload_n hx hb (dk DX11_layers 48 rfl) rfl (lv_at hl 0 rfl) ?_
                          refine gX11_40 C hR ob78 rf78_17 (dk DX11_layers 49 rfl) ?_
                          refine lv_iload hx hb (dk DX11_layers 50 rfl) (lv_at hl 4 rfl) ?_
                          refine lv_iload hx hb (dk DX11_layers 51 rfl) (lv_at hl 6 rfl) ?_
                          refine lv_iload hx hb (dk DX11_layers 52 rfl) (lv_at hl 7 rfl) ?_
                          refine lv_iload hx hb (dk DX11_layers 53 rfl) (lv_at hl 8 rfl) ?_
                          obtain ⟨x41, m39, hz40, hF⟩ := bnd_ex hF
                          refine r_callSi (As := [.int x10, .int x20, .int x26, .int x33]) (rest := [.ref (G.2.1 + 86)]) C hR (C_M_cell l hl0 G x10 x20 x26 x33 m36 _ _ hz40) (by decide) (by decide) wX11_357 rfl rfl (Nat.le_of_ble_eq_true rfl) hl.1 ⟨Nat.zero_le _, Nat.zero_le _⟩ (dk DX11_layers 54 rfl) (fun H locs hR => ?_)
                          refine lv_aload_n hx hb (dk DX11_layers 55 rfl) rfl (lv_at hl 0 rfl) ?_
                          refine gX11_340 C hR ob78 (dk DX11_layers 56 rfl) ?_
                          obtain ⟨h43, hF⟩ := ckB_ex hF
                          refine r_iast C hR ob86 h43 (dk DX11_layers 57 rfl) (fun H locs hR => ?_)
                          obtain ⟨m42, em42, hF⟩ := lt_ex hF
                          have hR := Rp_at em42 hR
                          refine lv_aload_n hx hb (dk DX11_layers 58 rfl) rfl (lv_at hl 0 rfl) ?_
                          refine gX11_43 C hR ob78 rf78_18 (dk DX11_layers 59 rfl) ?_
                          refine lv_iload hx hb (dk DX11_layers 60 rfl) (lv_at hl 4 rfl) ?_
                          refine lv_iload hx hb (dk DX11_layers 61 rfl) (lv_at hl 6 rfl) ?_
                          refine lv_iload hx hb (dk DX11_layers 62 rfl) (lv_at hl 7 rfl) ?_
                          refine lv_iload hx hb (dk DX11_layers 63 rfl) (lv_at hl 8 rfl) ?_
                          obtain ⟨x46, m44, hz45, hF⟩ := bnd_ex hF
                          refine r_callSi (As := [.int x10, .int x20, .int x26, .int x33]) (rest := [.ref (G.2.1 + 87)]) C hR (C_M_cell l hl0 G x10 x20 x26 x33 m42 _ _ hz45) (by decide) (by decide) wX11_357 rfl rfl (Nat.le_of_ble_eq_true rfl) hl.1 ⟨Nat.zero_le _, Nat.zero_le _⟩ (dk DX11_layers 64 rfl) (fun H locs hR => ?_)
                          refine lv_aload_n hx hb (dk DX11_layers 65 rfl) rfl (lv_at hl 0 rfl) ?_
                          refine gX11_343 C hR ob78 (dk DX11_layers 66 rfl) ?_
                          obtain ⟨h48, hF⟩ := ckB_ex hF
                          refine r_iast C hR ob87 h48 (dk DX11_layers 67 rfl) (fun H locs hR => ?_)
                          obtain ⟨m47, em47, hF⟩ := lt_ex hF
                          have hR := Rp_at em47 hR
                          obtain ⟨x49, ex49, hF⟩ := lt_ex hF
                          refine lv_iinc (v := x49) (lv' := [(9, .int x49), (0, .ref (G.2.1 + 78)), (2, .int a2), (3, .int a3), (4, .int x4), (5, .int x10), (6, .int x16), (7, .int x20), (8, .int x26)]) hx hb (dk DX11_layers 68 rfl) hl (k := 8) rfl (by rw [ex49]; rfl) (by decide) rfl (fun ls hl => ?_)
                          refine lv_goto (tgt := 71) hx hb (dk DX11_layers 69 rfl) (by decide) ?_
                          exact ih35 x49 m47 _ _ ls (lv_sub hl [1, 2, 3, 4, 5, 6, 7, 8, 0] rfl) hR hF
                    exact L71 1000000 x29 m25 _ _ ls (lv_sub hl [1, 2, 3, 4, 5, 6, 7, 8, 0] rfl) hR hF
              exact L59 1000000 (0 : Int32) m19 _ _ ls (lv_sub hl [1, 2, 3, 4, 5, 6, 7, 0] rfl) hR hF
        exact L51 1000000 (5 : Int32) m13 _ _ ls (lv_sub hl [2, 3, 4, 5, 6, 1, 0] rfl) hR hF
  exact L19 1000000 x8 m5 _ _ ls (lv_sub hl [2, 4, 5, 1, 0] rfl) hR hF
set_option maxHeartbeats 4000000 in
set_option maxRecDepth 100000 in
theorem C_M_kindOf (l : Launch) (hl0 : l.stackTraces = false) (G : GG) (a0 : Int32) (a1 : Bool) (m0 : Mem) (v : Int32) (m' : Mem) (hF : F_M_kindOf a0 a1 m0 = some (v, m')) : Ct l G mr0 N0 yX11_kindOf cX11_kindOf 2 (some .int) 1 [.int a0, .int (b2i a1)] m0 (some (.int v)) m' := by
  refine Ct_of hl0 (by decide) (Nat.le_of_ble_eq_true rfl) ?_
  intro p e s mid args below meth c ls C hrt hl hR
  have hx := C.1.1
  have hb := C.1.2.1
  have hl : lv_has ls 2 [(0, .int a0), (1, .int (b2i a1))] := hl
  unfold F_M_kindOf at hF
  refine lv_iload_n hx hb (dk DX11_kindOf 0 rfl) rfl (lv_at hl 0 rfl) ?_
  refine lv_iconst (v := (2 : Int32)) hx hb (dk DX11_kindOf 1 rfl) (by decide) ?_
  refine lv_icmp_ge (tgt := 9) hx hb (dk DX11_kindOf 2 rfl) (by decide) (fun c2 => ?_) (fun c2 => ?_)
  · have hF := if_t c2 hF
    refine lv_iload_n hx hb (dk DX11_kindOf 5 rfl) rfl (lv_at hl 0 rfl) ?_
    refine lv_iconst (v := (2 : Int32)) hx hb (dk DX11_kindOf 6 rfl) (by decide) ?_
    refine lv_icmp_ne (tgt := 26) hx hb (dk DX11_kindOf 7 rfl) (by decide) (fun c11 => ?_) (fun c11 => ?_)
    · have hF := if_f c11 hF
      refine lv_iload_n hx hb (dk DX11_kindOf 14 rfl) rfl (lv_at hl 1 rfl) ?_
      refine z_ifeq (tgt := 34) hx hb (dk DX11_kindOf 15 rfl) (by decide) (fun c27 => ?_) (fun c27 => ?_)
      · have hF := if_f c27 hF
        refine lv_iconst (v := (4 : Int32)) hx hb (dk DX11_kindOf 18 rfl) (by decide) ?_
        cases hF
        exact r_iret (v := (4 : Int32)) C hrt hR (dk DX11_kindOf 19 rfl)
      · have hF := if_t c27 hF
        refine lv_iconst (v := (5 : Int32)) hx hb (dk DX11_kindOf 16 rfl) (by decide) ?_
        refine lv_goto (tgt := 35) hx hb (dk DX11_kindOf 17 rfl) (by decide) ?_
        cases hF
        exact r_iret (v := (5 : Int32)) C hrt hR (dk DX11_kindOf 19 rfl)
    · have hF := if_t c11 hF
      refine lv_iload_n hx hb (dk DX11_kindOf 8 rfl) rfl (lv_at hl 1 rfl) ?_
      refine z_ifeq (tgt := 22) hx hb (dk DX11_kindOf 9 rfl) (by decide) (fun c15 => ?_) (fun c15 => ?_)
      · have hF := if_f c15 hF
        refine lv_iconst (v := (2 : Int32)) hx hb (dk DX11_kindOf 12 rfl) (by decide) ?_
        refine lv_goto (tgt := 35) hx hb (dk DX11_kindOf 13 rfl) (by decide) ?_
        cases hF
        exact r_iret (v := (2 : Int32)) C hrt hR (dk DX11_kindOf 19 rfl)
      · have hF := if_t c15 hF
        refine lv_iconst (v := (3 : Int32)) hx hb (dk DX11_kindOf 10 rfl) (by decide) ?_
        refine lv_goto (tgt := 35) hx hb (dk DX11_kindOf 11 rfl) (by decide) ?_
        cases hF
        exact r_iret (v := (3 : Int32)) C hrt hR (dk DX11_kindOf 19 rfl)
  · have hF := if_f c2 hF
    refine lv_iload_n hx hb (dk DX11_kindOf 3 rfl) rfl (lv_at hl 0 rfl) ?_
    refine lv_goto (tgt := 35) hx hb (dk DX11_kindOf 4 rfl) (by decide) ?_
    cases hF
    exact r_iret (v := a0) C hrt hR (dk DX11_kindOf 19 rfl)
set_option maxHeartbeats 4000000 in
set_option maxRecDepth 100000 in
theorem C_M_kindNow (l : Launch) (hl0 : l.stackTraces = false) (G : GG) (m0 : Mem) (v : Int32) (m' : Mem) (hF : F_M_kindNow m0 = some (v, m')) : Ct l G mr0 N0 yX11_kindNow cX11_kindNow 1 (some .int) 2 [.ref (G.2.1 + 78)] m0 (some (.int v)) m' := by
  refine Ct_of hl0 (by decide) (Nat.le_of_ble_eq_true rfl) ?_
  intro p e s mid args below meth c ls C hrt hl hR
  have hx := C.1.1
  have hb := C.1.2.1
  have hl : lv_has ls 1 [(0, .ref (G.2.1 + 78))] := hl
  unfold F_M_kindNow at hF
  refine lv_aload_n hx hb (dk DX11_kindNow 0 rfl) rfl (lv_at hl 0 rfl) ?_
  refine gX11_13 C hR ob78 rf78_1 (dk DX11_kindNow 1 rfl) ?_
  refine lv_bipush (v := (11 : Int32)) hx hb (dk DX11_kindNow 2 rfl) (by decide) ?_
  refine r_iald C hR ob79 rfl (dk DX11_kindNow 3 rfl) ?_
  refine lv_aload_n hx hb (dk DX11_kindNow 4 rfl) rfl (lv_at hl 0 rfl) ?_
  obtain ⟨z3, m1, hz2, hF⟩ := bnd_ex hF
  refine r_callVi (As := []) (rest := [.int (gI m0 79 11)]) C hR (C_M_isFollowed l hl0 G m0 _ _ hz2) (by decide) (by decide) ob78 rfl wX11_268 rfl rfl (Nat.le_of_ble_eq_true rfl) hl.1 ⟨Nat.zero_le _, Nat.zero_le _⟩ (dk DX11_kindNow 5 rfl) (fun H locs hR => ?_)
  obtain ⟨x6, m4, hz5, hF⟩ := bnd_ex hF
  refine r_callSi (As := [.int (gI m0 79 11), .int (b2i z3)]) (rest := []) C hR (C_M_kindOf l hl0 G (gI m0 79 11) z3 m1 _ _ hz5) (by decide) (by decide) wX11_406 rfl rfl (Nat.le_of_ble_eq_true rfl) hl.1 ⟨Nat.zero_le _, Nat.zero_le _⟩ (dk DX11_kindNow 6 rfl) (fun H locs hR => ?_)
  cases hF
  exact r_iret (v := x6) C hrt hR (dk DX11_kindNow 7 rfl)
set_option maxHeartbeats 4000000 in
set_option maxRecDepth 100000 in
theorem C_M_outNow (l : Launch) (hl0 : l.stackTraces = false) (G : GG) (m0 : Mem) (v : Int32) (m' : Mem) (hF : F_M_outNow m0 = some (v, m')) : Ct l G mr0 N0 yX11_outNow cX11_outNow 1 (some .int) 1 [.ref (G.2.1 + 78)] m0 (some (.int v)) m' := by
  refine Ct_of hl0 (by decide) (Nat.le_of_ble_eq_true rfl) ?_
  intro p e s mid args below meth c ls C hrt hl hR
  have hx := C.1.1
  have hb := C.1.2.1
  have hl : lv_has ls 1 [(0, .ref (G.2.1 + 78))] := hl
  unfold F_M_outNow at hF
  refine lv_aload_n hx hb (dk DX11_outNow 0 rfl) rfl (lv_at hl 0 rfl) ?_
  refine gX11_13 C hR ob78 rf78_1 (dk DX11_outNow 1 rfl) ?_
  refine lv_bipush (v := (14 : Int32)) hx hb (dk DX11_outNow 2 rfl) (by decide) ?_
  refine r_iald C hR ob79 rfl (dk DX11_outNow 3 rfl) ?_
  refine lv_iconst (v := (1 : Int32)) hx hb (dk DX11_outNow 4 rfl) (by decide) ?_
  refine lv_icmp_ne (tgt := 16) hx hb (dk DX11_outNow 5 rfl) (by decide) (fun c8 => ?_) (fun c8 => ?_)
  · have hF := if_f c8 hF
    refine lv_aload_n hx hb (dk DX11_outNow 8 rfl) rfl (lv_at hl 0 rfl) ?_
    refine gX11_13 C hR ob78 rf78_1 (dk DX11_outNow 9 rfl) ?_
    refine lv_bipush (v := (13 : Int32)) hx hb (dk DX11_outNow 10 rfl) (by decide) ?_
    refine r_iald C hR ob79 rfl (dk DX11_outNow 11 rfl) ?_
    cases hF
    exact r_iret (v := gI m0 79 13) C hrt hR (dk DX11_outNow 12 rfl)
  · have hF := if_t c8 hF
    refine lv_bipush (v := (10 : Int32)) hx hb (dk DX11_outNow 6 rfl) (by decide) ?_
    refine lv_goto (tgt := 23) hx hb (dk DX11_outNow 7 rfl) (by decide) ?_
    cases hF
    exact r_iret (v := (10 : Int32)) C hrt hR (dk DX11_outNow 12 rfl)
set_option maxHeartbeats 4000000 in
set_option maxRecDepth 100000 in
theorem C_M_countsAfter (l : Launch) (hl0 : l.stackTraces = false) (G : GG) (a1 : Int32) (m0 : Mem) (v : Unit) (m' : Mem) (hF : F_M_countsAfter a1 m0 = some (v, m')) : Ct l G mr0 N0 yX11_countsAfter cX11_countsAfter 4 none 10 [.ref (G.2.1 + 78), .int a1] m0 none m' := by
  refine Ct_of hl0 (by decide) (Nat.le_of_ble_eq_true rfl) ?_
  intro p e s mid args below meth c ls C hrt hl hR
  have hx := C.1.1
  have hb := C.1.2.1
  have hl : lv_has ls 4 [(0, .ref (G.2.1 + 78)), (1, .int a1)] := hl
  unfold F_M_countsAfter at hF
  refine lv_aload_n hx hb (dk DX11_countsAfter 0 rfl) rfl (lv_at hl 0 rfl) ?_
  obtain ⟨x3, m1, hz2, hF⟩ := bnd_ex hF
  refine r_callVi (As := []) (rest := []) C hR (C_M_played l hl0 G m0 _ _ hz2) (by decide) (by decide) ob78 rfl wX11_288 rfl rfl (Nat.le_of_ble_eq_true rfl) hl.1 ⟨Nat.zero_le _, Nat.zero_le _⟩ (dk DX11_countsAfter 1 rfl) (fun H locs hR => ?_)
  refine lv_istore_n (lv' := [(2, .int x3), (0, .ref (G.2.1 + 78)), (1, .int a1)]) hx hb (dk DX11_countsAfter 2 rfl) rfl hl (by decide) rfl (fun ls hl => ?_)
  refine lv_aload_n hx hb (dk DX11_countsAfter 3 rfl) rfl (lv_at hl 1 rfl) ?_
  refine lv_aload_n hx hb (dk DX11_countsAfter 4 rfl) rfl (lv_at hl 1 rfl) ?_
  obtain ⟨x6, m4, hz5, hF⟩ := bnd_ex hF
  refine r_callVi (As := []) (rest := [.ref (G.2.1 + 78)]) C hR (C_M_batter l hl0 G m1 _ _ hz5) (by decide) (by decide) ob78 rfl wX11_285 rfl rfl (Nat.le_of_ble_eq_true rfl) hl.1 ⟨Nat.zero_le _, Nat.zero_le _⟩ (dk DX11_countsAfter 5 rfl) (fun H locs hR => ?_)
  obtain ⟨x9, m7, hz8, hF⟩ := bnd_ex hF
  refine r_callVi (As := [.int x6]) (rest := []) C hR (C_M_leadOf l hl0 G x6 m4 _ _ hz8) (by decide) (by decide) ob78 rfl wX11_281 rfl rfl (Nat.le_of_ble_eq_true rfl) hl.1 ⟨Nat.zero_le _, Nat.zero_le _⟩ (dk DX11_countsAfter 6 rfl) (fun H locs hR => ?_)
  refine lv_istore_n (lv' := [(3, .int x9), (2, .int x3), (0, .ref (G.2.1 + 78)), (1, .int a1)]) hx hb (dk DX11_countsAfter 7 rfl) rfl hl (by decide) rfl (fun ls hl => ?_)
  refine lv_aload_n hx hb (dk DX11_countsAfter 8 rfl) rfl (lv_at hl 2 rfl) ?_
  refine lv_aload_n hx hb (dk DX11_countsAfter 9 rfl) rfl (lv_at hl 2 rfl) ?_
  refine gX11_13 C hR ob78 rf78_1 (dk DX11_countsAfter 10 rfl) ?_
  refine lv_iconst (v := (2 : Int32)) hx hb (dk DX11_countsAfter 11 rfl) (by decide) ?_
  refine r_iald C hR ob79 rfl (dk DX11_countsAfter 12 rfl) ?_
  refine pX11_334 (x := gI m7 79 2) C hR ob78 (dk DX11_countsAfter 13 rfl) (fun H locs hR => ?_)
  obtain ⟨m10, em10, hF⟩ := lt_ex hF
  have hR := Rp_at em10 hR
  refine lv_aload_n hx hb (dk DX11_countsAfter 14 rfl) rfl (lv_at hl 2 rfl) ?_
  refine lv_aload_n hx hb (dk DX11_countsAfter 15 rfl) rfl (lv_at hl 2 rfl) ?_
  obtain ⟨x13, m11, hz12, hF⟩ := bnd_ex hF
  refine r_callVi (As := []) (rest := [.ref (G.2.1 + 78)]) C hR (C_M_firstSide l hl0 G m10 _ _ hz12) (by decide) (by decide) ob78 rfl wX11_265 rfl rfl (Nat.le_of_ble_eq_true rfl) hl.1 ⟨Nat.zero_le _, Nat.zero_le _⟩ (dk DX11_countsAfter 16 rfl) (fun H locs hR => ?_)
  refine lv_iload_n hx hb (dk DX11_countsAfter 17 rfl) rfl (lv_at hl 1 rfl) ?_
  refine lv_iconst (v := (1 : Int32)) hx hb (dk DX11_countsAfter 18 rfl) (by decide) ?_
  refine lv_iadd hx hb (dk DX11_countsAfter 19 rfl) ?_
  refine lv_iload_n hx hb (dk DX11_countsAfter 20 rfl) rfl (lv_at hl 0 rfl) ?_
  refine r_abI C (gd q2054 rfl) (by decide) (Nat.le_of_ble_eq_true rfl) hl.1 ⟨Nat.zero_le _, Nat.zero_le _⟩ (dk DX11_countsAfter 21 rfl) ?_
  refine lv_aload_n hx hb (dk DX11_countsAfter 22 rfl) rfl (lv_at hl 2 rfl) ?_
  obtain ⟨x16, m14, hz15, hF⟩ := bnd_ex hF
  refine r_callVi (As := []) (rest := [.int (abI x9), .int (x3 + (1 : Int32)), .int x13, .ref (G.2.1 + 78)]) C hR (C_M_mostRuns l hl0 G m11 _ _ hz15) (by decide) (by decide) ob78 rfl wX11_396 rfl rfl (Nat.le_of_ble_eq_true rfl) hl.1 ⟨Nat.zero_le _, Nat.zero_le _⟩ (dk DX11_countsAfter 23 rfl) (fun H locs hR => ?_)
  refine lv_iadd hx hb (dk DX11_countsAfter 24 rfl) ?_
  obtain ⟨u19, m17, hz18, hF⟩ := bnd_ex hF
  refine r_callVv (As := [.int x13, .int (x3 + (1 : Int32)), .int ((abI x9) + x16)]) (rest := []) C hR (C_M_layers l hl0 G x13 (x3 + (1 : Int32)) ((abI x9) + x16) m14 _ _ hz18) (by decide) (by decide) ob78 rfl wX11_412 rfl rfl (Nat.le_of_ble_eq_true rfl) hl.1 ⟨Nat.zero_le _, Nat.zero_le _⟩ (dk DX11_countsAfter 25 rfl) (fun H locs hR => ?_)
  refine lv_aload_n hx hb (dk DX11_countsAfter 26 rfl) rfl (lv_at hl 2 rfl) ?_
  refine lv_iload_n hx hb (dk DX11_countsAfter 27 rfl) rfl (lv_at hl 1 rfl) ?_
  obtain ⟨u22, m20, hz21, hF⟩ := bnd_ex hF
  refine r_callVv (As := [.int x3]) (rest := []) C hR (C_M_laysLevels l hl0 G x3 m17 _ _ hz21) (by decide) (by decide) ob78 rfl wX11_399 rfl rfl (Nat.le_of_ble_eq_true rfl) hl.1 ⟨Nat.zero_le _, Nat.zero_le _⟩ (dk DX11_countsAfter 28 rfl) (fun H locs hR => ?_)
  refine lv_aload_n hx hb (dk DX11_countsAfter 29 rfl) rfl (lv_at hl 2 rfl) ?_
  refine lv_iconst (v := (0 : Int32)) hx hb (dk DX11_countsAfter 30 rfl) (by decide) ?_
  refine pX11_340 (x := (0 : Int32)) C hR ob78 (dk DX11_countsAfter 31 rfl) (fun H locs hR => ?_)
  obtain ⟨m23, em23, hF⟩ := lt_ex hF
  have hR := Rp_at em23 hR
  refine lv_aload_n hx hb (dk DX11_countsAfter 32 rfl) rfl (lv_at hl 2 rfl) ?_
  refine lv_iconst (v := (0 : Int32)) hx hb (dk DX11_countsAfter 33 rfl) (by decide) ?_
  refine pX11_343 (x := (0 : Int32)) C hR ob78 (dk DX11_countsAfter 34 rfl) (fun H locs hR => ?_)
  obtain ⟨m24, em24, hF⟩ := lt_ex hF
  have hR := Rp_at em24 hR
  refine lv_aload_n hx hb (dk DX11_countsAfter 35 rfl) rfl (lv_at hl 2 rfl) ?_
  refine lv_iload_n hx hb (dk DX11_countsAfter 36 rfl) rfl (lv_at hl 1 rfl) ?_
  refine lv_aload_n hx hb (dk DX11_countsAfter 37 rfl) rfl (lv_at hl 2 rfl) ?_
  obtain ⟨x27, m25, hz26, hF⟩ := bnd_ex hF
  refine r_callVi (As := []) (rest := [.int x3, .ref (G.2.1 + 78)]) C hR (C_M_kindNow l hl0 G m24 _ _ hz26) (by decide) (by decide) ob78 rfl wX11_415 rfl rfl (Nat.le_of_ble_eq_true rfl) hl.1 ⟨Nat.zero_le _, Nat.zero_le _⟩ (dk DX11_countsAfter 38 rfl) (fun H locs hR => ?_)
  refine lv_aload_n hx hb (dk DX11_countsAfter 39 rfl) rfl (lv_at hl 2 rfl) ?_
  obtain ⟨x30, m28, hz29, hF⟩ := bnd_ex hF
  refine r_callVi (As := []) (rest := [.int x27, .int x3, .ref (G.2.1 + 78)]) C hR (C_M_outNow l hl0 G m25 _ _ hz29) (by decide) (by decide) ob78 rfl wX11_418 rfl rfl (Nat.le_of_ble_eq_true rfl) hl.1 ⟨Nat.zero_le _, Nat.zero_le _⟩ (dk DX11_countsAfter 40 rfl) (fun H locs hR => ?_)
  refine lv_iload_n hx hb (dk DX11_countsAfter 41 rfl) rfl (lv_at hl 0 rfl) ?_
  refine lv_iload_n hx hb (dk DX11_countsAfter 42 rfl) rfl (lv_at hl 3 rfl) ?_
  refine lv_iconst (v := (0 : Int32)) hx hb (dk DX11_countsAfter 43 rfl) (by decide) ?_
  obtain ⟨u33, m31, hz32, hF⟩ := bnd_ex hF
  refine r_callVv (As := [.int x3, .int x27, .int x30, .int x9, .int a1, .int (b2i false)]) (rest := []) C hR (C_M_brings l hl0 G x3 x27 x30 x9 a1 false m28 _ _ hz32) (by decide) (by decide) ob78 rfl wX11_364 rfl rfl (Nat.le_of_ble_eq_true rfl) hl.1 ⟨Nat.zero_le _, Nat.zero_le _⟩ (dk DX11_countsAfter 44 rfl) (fun H locs hR => ?_)
  cases hF
  exact r_vret C hrt hR (dk DX11_countsAfter 45 rfl)
set_option maxHeartbeats 4000000 in
set_option maxRecDepth 100000 in
theorem C_M_waysOf (l : Launch) (hl0 : l.stackTraces = false) (G : GG) (a1 : Int32) (a2 : Int32) (a3 : Int32) (m0 : Mem) (v : Int64) (m' : Mem) (hF : F_M_waysOf a1 a2 a3 m0 = some (v, m')) : Ct l G mr0 N0 yX11_waysOf cX11_waysOf 6 (some .long) 3 [.ref (G.2.1 + 78), .int a1, .int a2, .int a3] m0 (some (.long v)) m' := by
  refine Ct_of hl0 (by decide) (Nat.le_of_ble_eq_true rfl) ?_
  intro p e s mid args below meth c ls C hrt hl hR
  have hx := C.1.1
  have hb := C.1.2.1
  have hl : lv_has ls 6 [(0, .ref (G.2.1 + 78)), (1, .int a1), (2, .int a2), (3, .int a3)] := hl
  unfold F_M_waysOf at hF
  refine lv_iload_n hx hb (dk DX11_waysOf 0 rfl) rfl (lv_at hl 3 rfl) ?_
  obtain ⟨k15_2, ek15_2, hF⟩ := lt_ex hF
  have J15 : ∀ (x2 : Int32) (m1 : Mem) (H : Heap) (locs : List Loc) (ls : Array Slot), lv_has ls 6 [(0, .ref (G.2.1 + 78)), (1, .int a1), (2, .int a2), (3, .int a3)] → Rp G mr0 N0 m1 s H locs → k15_2 x2 m1 = some (v, m') → W p l e (rmD 3) s mid args below meth c H locs 0 0 (MQ below (QR G mr0 N0 (some (.long v)) m') args s 0 0 (fun q => G.2.1 ≤ q)) (F0 mid 15 ls [.int x2]) := by
    intro x2 m1 H locs ls hl hR hF
    rw [ek15_2] at hF
    refine lv_istore (lv' := [(4, .int x2), (0, .ref (G.2.1 + 78)), (1, .int a1), (2, .int a2), (3, .int a3)]) hx hb (dk DX11_waysOf 7 rfl) hl (by decide) rfl (fun ls hl => ?_)
    refine lv_iload_n hx hb (dk DX11_waysOf 8 rfl) rfl (lv_at hl 4 rfl) ?_
    obtain ⟨k32_4, ek32_4, hF⟩ := lt_ex hF
    have J32 : ∀ (x4 : Int32) (m3 : Mem) (H : Heap) (locs : List Loc) (ls : Array Slot), lv_has ls 6 [(0, .ref (G.2.1 + 78)), (1, .int a1), (2, .int a2), (4, .int x2)] → Rp G mr0 N0 m3 s H locs → k32_4 x4 m3 = some (v, m') → W p l e (rmD 3) s mid args below meth c H locs 0 0 (MQ below (QR G mr0 N0 (some (.long v)) m') args s 0 0 (fun q => G.2.1 ≤ q)) (F0 mid 32 ls [.int x4]) := by
      intro x4 m3 H locs ls hl hR hF
      rw [ek32_4] at hF
      refine lv_istore (lv' := [(5, .int x4), (0, .ref (G.2.1 + 78)), (1, .int a1), (2, .int a2), (4, .int x2)]) hx hb (dk DX11_waysOf 15 rfl) hl (by decide) rfl (fun ls hl => ?_)
      refine lv_iload_n hx hb (dk DX11_waysOf 16 rfl) rfl (lv_at hl 2 rfl) ?_
      refine lv_if_ne (tgt := 44) hx hb (dk DX11_waysOf 17 rfl) (by decide) (fun c35 => ?_) (fun c35 => ?_)
      · have hF := if_f c35 hF
        refine lv_iload_n hx hb (dk DX11_waysOf 21 rfl) rfl (lv_at hl 2 rfl) ?_
        refine lv_iconst (v := (1 : Int32)) hx hb (dk DX11_waysOf 22 rfl) (by decide) ?_
        refine lv_icmp_ne (tgt := 55) hx hb (dk DX11_waysOf 23 rfl) (by decide) (fun c46 => ?_) (fun c46 => ?_)
        · have hF := if_f c46 hF
          refine lv_iload_n hx hb (dk DX11_waysOf 27 rfl) rfl (lv_at hl 2 rfl) ?_
          refine lv_iconst (v := (2 : Int32)) hx hb (dk DX11_waysOf 28 rfl) (by decide) ?_
          refine lv_icmp_ne (tgt := 75) hx hb (dk DX11_waysOf 29 rfl) (by decide) (fun c57 => ?_) (fun c57 => ?_)
          · have hF := if_f c57 hF
            refine lv_aload_n hx hb (dk DX11_waysOf 39 rfl) rfl (lv_at hl 1 rfl) ?_
            refine lv_iload_n hx hb (dk DX11_waysOf 40 rfl) rfl (lv_at hl 3 rfl) ?_
            obtain ⟨x7, m5, hz6, hF⟩ := bnd_ex hF
            refine r_callVi (As := [.int a2]) (rest := []) C hR (C_M_all l hl0 G a2 m3 _ _ hz6) (by decide) (by decide) ob78 rfl wX11_337 rfl rfl (Nat.le_of_ble_eq_true rfl) hl.1 ⟨Nat.zero_le _, Nat.zero_le _⟩ (dk DX11_waysOf 41 rfl) (fun H locs hR => ?_)
            refine lv_i2l hx hb (dk DX11_waysOf 42 rfl) rfl ?_
            cases hF
            exact r_lret (v := x7.toInt64) C hrt hR (dk DX11_waysOf 43 rfl)
          · have hF := if_t c57 hF
            refine lv_aload_n hx hb (dk DX11_waysOf 30 rfl) rfl (lv_at hl 1 rfl) ?_
            refine lv_iload_n hx hb (dk DX11_waysOf 31 rfl) rfl (lv_at hl 3 rfl) ?_
            obtain ⟨x10, m8, hz9, hF⟩ := bnd_ex hF
            refine r_callVi (As := [.int a2]) (rest := []) C hR (C_M_all l hl0 G a2 m3 _ _ hz9) (by decide) (by decide) ob78 rfl wX11_337 rfl rfl (Nat.le_of_ble_eq_true rfl) hl.1 ⟨Nat.zero_le _, Nat.zero_le _⟩ (dk DX11_waysOf 32 rfl) (fun H locs hR => ?_)
            refine lv_iload hx hb (dk DX11_waysOf 33 rfl) (lv_at hl 4 rfl) ?_
            refine lv_isub hx hb (dk DX11_waysOf 34 rfl) ?_
            refine lv_iload hx hb (dk DX11_waysOf 35 rfl) (lv_at hl 0 rfl) ?_
            refine lv_isub hx hb (dk DX11_waysOf 36 rfl) ?_
            refine lv_i2l hx hb (dk DX11_waysOf 37 rfl) rfl ?_
            refine lv_goto (tgt := 81) hx hb (dk DX11_waysOf 38 rfl) (by decide) ?_
            cases hF
            exact r_lret (v := ((x10 - x2) - x4).toInt64) C hrt hR (dk DX11_waysOf 43 rfl)
        · have hF := if_t c46 hF
          refine lv_iload hx hb (dk DX11_waysOf 24 rfl) (lv_at hl 0 rfl) ?_
          refine lv_i2l hx hb (dk DX11_waysOf 25 rfl) rfl ?_
          refine lv_goto (tgt := 81) hx hb (dk DX11_waysOf 26 rfl) (by decide) ?_
          cases hF
          exact r_lret (v := x4.toInt64) C hrt hR (dk DX11_waysOf 43 rfl)
      · have hF := if_t c35 hF
        refine lv_iload hx hb (dk DX11_waysOf 18 rfl) (lv_at hl 4 rfl) ?_
        refine lv_i2l hx hb (dk DX11_waysOf 19 rfl) rfl ?_
        refine lv_goto (tgt := 81) hx hb (dk DX11_waysOf 20 rfl) (by decide) ?_
        cases hF
        exact r_lret (v := x2.toInt64) C hrt hR (dk DX11_waysOf 43 rfl)
    refine lv_if_ne (tgt := 28) hx hb (dk DX11_waysOf 9 rfl) (by decide) (fun c18 => ?_) (fun c18 => ?_)
    · have hF := if_f c18 hF
      refine lv_aload_n hx hb (dk DX11_waysOf 13 rfl) rfl (lv_at hl 1 rfl) ?_
      refine gX11_340 C hR ob78 (dk DX11_waysOf 14 rfl) ?_
      exact J32 (gI m1 78 23) m1 _ _ ls (lv_sub hl [1, 2, 3, 0] rfl) hR hF
    · have hF := if_t c18 hF
      refine lv_aload_n hx hb (dk DX11_waysOf 10 rfl) rfl (lv_at hl 1 rfl) ?_
      refine gX11_343 C hR ob78 (dk DX11_waysOf 11 rfl) ?_
      refine lv_goto (tgt := 32) hx hb (dk DX11_waysOf 12 rfl) (by decide) ?_
      exact J32 (gI m1 78 24) m1 _ _ ls (lv_sub hl [1, 2, 3, 0] rfl) hR hF
  refine lv_if_ne (tgt := 11) hx hb (dk DX11_waysOf 1 rfl) (by decide) (fun c1 => ?_) (fun c1 => ?_)
  · have hF := if_f c1 hF
    refine lv_aload_n hx hb (dk DX11_waysOf 5 rfl) rfl (lv_at hl 0 rfl) ?_
    refine gX11_343 C hR ob78 (dk DX11_waysOf 6 rfl) ?_
    exact J15 (gI m0 78 24) m0 _ _ ls (lv_sub hl [0, 1, 2, 3] rfl) hR hF
  · have hF := if_t c1 hF
    refine lv_aload_n hx hb (dk DX11_waysOf 2 rfl) rfl (lv_at hl 0 rfl) ?_
    refine gX11_340 C hR ob78 (dk DX11_waysOf 3 rfl) ?_
    refine lv_goto (tgt := 15) hx hb (dk DX11_waysOf 4 rfl) (by decide) ?_
    exact J15 (gI m0 78 23) m0 _ _ ls (lv_sub hl [0, 1, 2, 3] rfl) hR hF
set_option maxHeartbeats 4000000 in
set_option maxRecDepth 100000 in
theorem C_M_after_IIJ (l : Launch) (hl0 : l.stackTraces = false) (G : GG) (a1 : Int32) (a2 : Int32) (m0 : Mem) (v : Int64) (m' : Mem) (hF : F_M_after_IIJ a1 a2 m0 = some (v, m')) : Ct l G mr0 N0 yX11_after_ cX11_after_ 3 (some .long) 11 [.ref (G.2.1 + 78), .int a1, .int a2] m0 (some (.long v)) m' := by
  refine Ct_of hl0 (by decide) (Nat.le_of_ble_eq_true rfl) ?_
  intro p e s mid args below meth c ls C hrt hl hR
  have hx := C.1.1
  have hb := C.1.2.1
  have hl : lv_has ls 3 [(0, .ref (G.2.1 + 78)), (1, .int a1), (2, .int a2)] := hl
  unfold F_M_after_IIJ at hF
  refine lv_aload_n hx hb (dk DX11_after_ 0 rfl) rfl (lv_at hl 0 rfl) ?_
  refine lv_iconst (v := (0 : Int32)) hx hb (dk DX11_after_ 1 rfl) (by decide) ?_
  refine pX11_3 (x := (0 : Int32)) C hR ob78 (dk DX11_after_ 2 rfl) (fun H locs hR => ?_)
  obtain ⟨m1, em1, hF⟩ := lt_ex hF
  have hR := Rp_at em1 hR
  refine lv_aload_n hx hb (dk DX11_after_ 3 rfl) rfl (lv_at hl 0 rfl) ?_
  refine lv_iload_n hx hb (dk DX11_after_ 4 rfl) rfl (lv_at hl 1 rfl) ?_
  obtain ⟨z4, m2, hz3, hF⟩ := bnd_ex hF
  refine r_callSi (As := [.int a1]) (rest := [.ref (G.2.1 + 78)]) C hR (C_M_noSlot l hl0 G a1 m1 _ _ hz3) (by decide) (by decide) wX11_246 rfl rfl (Nat.le_of_ble_eq_true rfl) hl.1 ⟨Nat.zero_le _, Nat.zero_le _⟩ (dk DX11_after_ 5 rfl) (fun H locs hR => ?_)
  refine lv_iconst (v := (1 : Int32)) hx hb (dk DX11_after_ 6 rfl) (by decide) ?_
  obtain ⟨z7, m5, hz6, hF⟩ := bnd_ex hF
  refine r_callVi (As := [.int (b2i z4), .int (1 : Int32)]) (rest := []) C hR (C_M_throwsIf l hl0 G z4 (1 : Int32) m2 _ _ hz6) (by decide) (by decide) ob78 rfl wX11_227 rfl rfl (Nat.le_of_ble_eq_true rfl) hl.1 ⟨Nat.zero_le _, Nat.zero_le _⟩ (dk DX11_after_ 7 rfl) (fun H locs hR => ?_)
  refine z_ifne (tgt := 59) hx hb (dk DX11_after_ 8 rfl) (by decide) (fun c14 => ?_) (fun c14 => ?_)
  · have hF := if_t c14 hF
    refine lv_lconst (v := (0 : Int64)) hx hb (dk DX11_after_ 31 rfl) (by decide) ?_
    cases hF
    exact r_lret (v := (0 : Int64)) C hrt hR (dk DX11_after_ 32 rfl)
  · have hF := if_f c14 hF
    refine lv_aload_n hx hb (dk DX11_after_ 9 rfl) rfl (lv_at hl 0 rfl) ?_
    refine lv_aload_n hx hb (dk DX11_after_ 10 rfl) rfl (lv_at hl 0 rfl) ?_
    obtain ⟨z10, m8, hz9, hF⟩ := bnd_ex hF
    refine r_callVi (As := []) (rest := [.ref (G.2.1 + 78)]) C hR (C_M_isOn l hl0 G m5 _ _ hz9) (by decide) (by decide) ob78 rfl wX11_278 rfl rfl (Nat.le_of_ble_eq_true rfl) hl.1 ⟨Nat.zero_le _, Nat.zero_le _⟩ (dk DX11_after_ 11 rfl) (fun H locs hR => ?_)
    obtain ⟨k30_12, ek30_12, hF⟩ := lt_ex hF
    have J30 : ∀ (z12 : Bool) (m11 : Mem) (H : Heap) (locs : List Loc) (ls : Array Slot), lv_has ls 3 [(0, .ref (G.2.1 + 78)), (1, .int a1), (2, .int a2)] → Rp G mr0 N0 m11 s H locs → k30_12 z12 m11 = some (v, m') → W p l e (rmD 11) s mid args below meth c H locs 0 0 (MQ below (QR G mr0 N0 (some (.long v)) m') args s 0 0 (fun q => G.2.1 ≤ q)) (F0 mid 30 ls [.int (b2i z12), .ref (G.2.1 + 78)]) := by
      intro z12 m11 H locs ls hl hR hF
      rw [ek30_12] at hF
      refine lv_iconst (v := (2 : Int32)) hx hb (dk DX11_after_ 16 rfl) (by decide) ?_
      obtain ⟨z15, m13, hz14, hF⟩ := bnd_ex hF
      refine r_callVi (As := [.int (b2i z12), .int (2 : Int32)]) (rest := []) C hR (C_M_throwsIf l hl0 G z12 (2 : Int32) m11 _ _ hz14) (by decide) (by decide) ob78 rfl wX11_227 rfl rfl (Nat.le_of_ble_eq_true rfl) hl.1 ⟨Nat.zero_le _, Nat.zero_le _⟩ (dk DX11_after_ 17 rfl) (fun H locs hR => ?_)
      refine z_ifne (tgt := 59) hx hb (dk DX11_after_ 18 rfl) (by decide) (fun c34 => ?_) (fun c34 => ?_)
      · have hF := if_t c34 hF
        refine lv_lconst (v := (0 : Int64)) hx hb (dk DX11_after_ 31 rfl) (by decide) ?_
        cases hF
        exact r_lret (v := (0 : Int64)) C hrt hR (dk DX11_after_ 32 rfl)
      · have hF := if_f c34 hF
        refine lv_aload_n hx hb (dk DX11_after_ 19 rfl) rfl (lv_at hl 0 rfl) ?_
        refine lv_iload_n hx hb (dk DX11_after_ 20 rfl) rfl (lv_at hl 2 rfl) ?_
        refine lv_iconst (v := (0 : Int32)) hx hb (dk DX11_after_ 21 rfl) (by decide) ?_
        refine lv_iconst (v := (3 : Int32)) hx hb (dk DX11_after_ 22 rfl) (by decide) ?_
        obtain ⟨z18, m16, hz17, hF⟩ := bnd_ex hF
        refine r_callSi (As := [.int a2, .int (0 : Int32), .int (3 : Int32)]) (rest := [.ref (G.2.1 + 78)]) C hR (C_M_in l hl0 G a2 (0 : Int32) (3 : Int32) m13 _ _ hz17) (by decide) (by decide) wX11_67 rfl rfl (Nat.le_of_ble_eq_true rfl) hl.1 ⟨Nat.zero_le _, Nat.zero_le _⟩ (dk DX11_after_ 23 rfl) (fun H locs hR => ?_)
        obtain ⟨k52_20, ek52_20, hF⟩ := lt_ex hF
        have J52 : ∀ (z20 : Bool) (m19 : Mem) (H : Heap) (locs : List Loc) (ls : Array Slot), lv_has ls 3 [(0, .ref (G.2.1 + 78)), (1, .int a1), (2, .int a2)] → Rp G mr0 N0 m19 s H locs → k52_20 z20 m19 = some (v, m') → W p l e (rmD 11) s mid args below meth c H locs 0 0 (MQ below (QR G mr0 N0 (some (.long v)) m') args s 0 0 (fun q => G.2.1 ≤ q)) (F0 mid 52 ls [.int (b2i z20), .ref (G.2.1 + 78)]) := by
          intro z20 m19 H locs ls hl hR hF
          rw [ek52_20] at hF
          refine lv_iconst (v := (3 : Int32)) hx hb (dk DX11_after_ 28 rfl) (by decide) ?_
          obtain ⟨z23, m21, hz22, hF⟩ := bnd_ex hF
          refine r_callVi (As := [.int (b2i z20), .int (3 : Int32)]) (rest := []) C hR (C_M_throwsIf l hl0 G z20 (3 : Int32) m19 _ _ hz22) (by decide) (by decide) ob78 rfl wX11_227 rfl rfl (Nat.le_of_ble_eq_true rfl) hl.1 ⟨Nat.zero_le _, Nat.zero_le _⟩ (dk DX11_after_ 29 rfl) (fun H locs hR => ?_)
          refine z_ifeq (tgt := 61) hx hb (dk DX11_after_ 30 rfl) (by decide) (fun c56 => ?_) (fun c56 => ?_)
          · have hF := if_f c56 hF
            refine lv_aload_n hx hb (dk DX11_after_ 33 rfl) rfl (lv_at hl 0 rfl) ?_
            refine lv_iload_n hx hb (dk DX11_after_ 34 rfl) rfl (lv_at hl 1 rfl) ?_
            obtain ⟨u26, m24, hz25, hF⟩ := bnd_ex hF
            refine r_callVv (As := [.int a1]) (rest := []) C hR (C_M_countsAfter l hl0 G a1 m21 _ _ hz25) (by decide) (by decide) ob78 rfl wX11_449 rfl rfl (Nat.le_of_ble_eq_true rfl) hl.1 ⟨Nat.zero_le _, Nat.zero_le _⟩ (dk DX11_after_ 35 rfl) (fun H locs hR => ?_)
            refine lv_aload_n hx hb (dk DX11_after_ 36 rfl) rfl (lv_at hl 0 rfl) ?_
            refine lv_iload_n hx hb (dk DX11_after_ 37 rfl) rfl (lv_at hl 2 rfl) ?_
            refine lv_aload_n hx hb (dk DX11_after_ 38 rfl) rfl (lv_at hl 0 rfl) ?_
            obtain ⟨x29, m27, hz28, hF⟩ := bnd_ex hF
            refine r_callVi (As := []) (rest := [.int a2, .ref (G.2.1 + 78)]) C hR (C_M_played l hl0 G m24 _ _ hz28) (by decide) (by decide) ob78 rfl wX11_288 rfl rfl (Nat.le_of_ble_eq_true rfl) hl.1 ⟨Nat.zero_le _, Nat.zero_le _⟩ (dk DX11_after_ 39 rfl) (fun H locs hR => ?_)
            refine lv_iconst (v := (1 : Int32)) hx hb (dk DX11_after_ 40 rfl) (by decide) ?_
            refine lv_iadd hx hb (dk DX11_after_ 41 rfl) ?_
            refine lv_aload_n hx hb (dk DX11_after_ 42 rfl) rfl (lv_at hl 0 rfl) ?_
            obtain ⟨x32, m30, hz31, hF⟩ := bnd_ex hF
            refine r_callVi (As := []) (rest := [.int (x29 + (1 : Int32)), .int a2, .ref (G.2.1 + 78)]) C hR (C_M_batter l hl0 G m27 _ _ hz31) (by decide) (by decide) ob78 rfl wX11_285 rfl rfl (Nat.le_of_ble_eq_true rfl) hl.1 ⟨Nat.zero_le _, Nat.zero_le _⟩ (dk DX11_after_ 43 rfl) (fun H locs hR => ?_)
            obtain ⟨y35, m33, hz34, hF⟩ := bnd_ex hF
            refine r_callVl (As := [.int a2, .int (x29 + (1 : Int32)), .int x32]) (rest := []) C hR (C_M_waysOf l hl0 G a2 (x29 + (1 : Int32)) x32 m30 _ _ hz34) (by decide) (by decide) ob78 rfl wX11_427 rfl rfl (Nat.le_of_ble_eq_true rfl) hl.1 ⟨Nat.zero_le _, Nat.zero_le _⟩ (dk DX11_after_ 44 rfl) (fun H locs hR => ?_)
            cases hF
            exact r_lret (v := y35) C hrt hR (dk DX11_after_ 45 rfl)
          · have hF := if_t c56 hF
            refine lv_lconst (v := (0 : Int64)) hx hb (dk DX11_after_ 31 rfl) (by decide) ?_
            cases hF
            exact r_lret (v := (0 : Int64)) C hrt hR (dk DX11_after_ 32 rfl)
        refine z_ifne (tgt := 51) hx hb (dk DX11_after_ 24 rfl) (by decide) (fun c44 => ?_) (fun c44 => ?_)
        · have hF := if_t c44 hF
          refine lv_iconst (v := (0 : Int32)) hx hb (dk DX11_after_ 27 rfl) (by decide) ?_
          exact J52 false m16 _ _ ls (lv_sub hl [0, 1, 2] rfl) hR hF
        · have hF := if_f c44 hF
          refine lv_iconst (v := (1 : Int32)) hx hb (dk DX11_after_ 25 rfl) (by decide) ?_
          refine lv_goto (tgt := 52) hx hb (dk DX11_after_ 26 rfl) (by decide) ?_
          exact J52 true m16 _ _ ls (lv_sub hl [0, 1, 2] rfl) hR hF
    refine z_ifne (tgt := 29) hx hb (dk DX11_after_ 12 rfl) (by decide) (fun c22 => ?_) (fun c22 => ?_)
    · have hF := if_t c22 hF
      refine lv_iconst (v := (0 : Int32)) hx hb (dk DX11_after_ 15 rfl) (by decide) ?_
      exact J30 false m8 _ _ ls (lv_sub hl [0, 1, 2] rfl) hR hF
    · have hF := if_f c22 hF
      refine lv_iconst (v := (1 : Int32)) hx hb (dk DX11_after_ 13 rfl) (by decide) ?_
      refine lv_goto (tgt := 30) hx hb (dk DX11_after_ 14 rfl) (by decide) ?_
      exact J30 true m8 _ _ ls (lv_sub hl [0, 1, 2] rfl) hR hF
set_option maxHeartbeats 4000000 in
set_option maxRecDepth 100000 in
theorem C_M_remembers (l : Launch) (hl0 : l.stackTraces = false) (G : GG) (m0 : Mem) (v : Unit) (m' : Mem) (hF : F_M_remembers m0 = some (v, m')) : Ct l G mr0 N0 yX11_remembers cX11_remembers 2 none 1 [.ref (G.2.1 + 78)] m0 none m' := by
  refine Ct_of hl0 (by decide) (Nat.le_of_ble_eq_true rfl) ?_
  intro p e s mid args below meth c ls C hrt hl hR
  have hx := C.1.1
  have hb := C.1.2.1
  have hl : lv_has ls 2 [(0, .ref (G.2.1 + 78))] := hl
  unfold F_M_remembers at hF
  refine lv_aload_n hx hb (dk DX11_remembers 0 rfl) rfl (lv_at hl 0 rfl) ?_
  refine gX11_60 C hR ob78 (dk DX11_remembers 1 rfl) ?_
  refine lv_bipush (v := (12 : Int32)) hx hb (dk DX11_remembers 2 rfl) (by decide) ?_
  obtain ⟨k53_1, ek53_1, hF⟩ := lt_ex hF
  have J53 : ∀ (m1 : Mem) (H : Heap) (locs : List Loc) (ls : Array Slot), lv_has ls 2 [(0, .ref (G.2.1 + 78))] → Rp G mr0 N0 m1 s H locs → k53_1  m1 = some (v, m') → W p l e (rmD 1) s mid args below meth c H locs 0 0 (MQ below (QR G mr0 N0 none m') args s 0 0 (fun q => G.2.1 ≤ q)) (F0 mid 53 ls []) := by
    intro  m1 H locs ls hl hR hF
    rw [ek53_1] at hF
    refine lv_iconst (v := (0 : Int32)) hx hb (dk DX11_remembers 28 rfl) (by decide) ?_
    refine lv_istore_n (lv' := [(1, .int (0 : Int32)), (0, .ref (G.2.1 + 78))]) hx hb (dk DX11_remembers 29 rfl) rfl hl (by decide) rfl (fun ls hl => ?_)
    have L55 : ∀ (nf : Nat) (x3 : Int32) (m2 : Mem) (H : Heap) (locs : List Loc) (ls : Array Slot), lv_has ls 2 [(0, .ref (G.2.1 + 78)), (1, .int x3)] → Rp G mr0 N0 m2 s H locs → F_M_remembers_L55 nf x3 m2 = some (v, m') → W p l e (rmD 1) s mid args below meth c H locs 0 0 (MQ below (QR G mr0 N0 none m') args s 0 0 (fun q => G.2.1 ≤ q)) (F0 mid 55 ls []) := by
      intro nf
      induction nf with
      | zero =>
        intro x3 m2 H locs ls hl hR hF
        rw [F_M_remembers_L55] at hF
        cases hF
      | succ nf ih5 =>
        intro x3 m2 H locs ls hl hR hF
        rw [F_M_remembers_L55] at hF
        refine lv_iload_n hx hb (dk DX11_remembers 30 rfl) rfl (lv_at hl 1 rfl) ?_
        refine lv_sipush (v := (298 : Int32)) hx hb (dk DX11_remembers 31 rfl) (by decide) ?_
        refine lv_icmp_ge (tgt := 91) hx hb (dk DX11_remembers 32 rfl) (by decide) (fun c59 => ?_) (fun c59 => ?_)
        · have hF := if_t c59 hF
          cases hF
          exact r_vret C hrt hR (dk DX11_remembers 50 rfl)
        · have hF := if_f c59 hF
          refine lv_aload_n hx hb (dk DX11_remembers 33 rfl) rfl (lv_at hl 0 rfl) ?_
          refine gX11_23 C hR ob78 rf78_4 (dk DX11_remembers 34 rfl) ?_
          refine lv_sipush (v := (298 : Int32)) hx hb (dk DX11_remembers 35 rfl) (by decide) ?_
          refine lv_aload_n hx hb (dk DX11_remembers 36 rfl) rfl (lv_at hl 0 rfl) ?_
          refine gX11_60 C hR ob78 (dk DX11_remembers 37 rfl) ?_
          refine lv_iconst (v := (1 : Int32)) hx hb (dk DX11_remembers 38 rfl) (by decide) ?_
          refine lv_isub hx hb (dk DX11_remembers 39 rfl) ?_
          refine lv_imul hx hb (dk DX11_remembers 40 rfl) ?_
          refine lv_iload_n hx hb (dk DX11_remembers 41 rfl) rfl (lv_at hl 1 rfl) ?_
          refine lv_iadd hx hb (dk DX11_remembers 42 rfl) ?_
          refine lv_topi (fun x6 ex6 => ?_)
          have hF := lt_at ex6 hF
          refine lv_aload_n hx hb (dk DX11_remembers 43 rfl) rfl (lv_at hl 0 rfl) ?_
          refine gX11_13 C hR ob78 rf78_1 (dk DX11_remembers 44 rfl) ?_
          refine lv_iload_n hx hb (dk DX11_remembers 45 rfl) rfl (lv_at hl 1 rfl) ?_
          obtain ⟨h7, hF⟩ := ckB_ex hF
          refine r_iald C hR ob79 h7 (dk DX11_remembers 46 rfl) ?_
          refine lv_topi (fun x8 ex8 => ?_)
          have hF := lt_at ex8 hF
          obtain ⟨h10, hF⟩ := ckB_ex hF
          refine r_iast C hR ob82 h10 (dk DX11_remembers 47 rfl) (fun H locs hR => ?_)
          obtain ⟨m9, em9, hF⟩ := lt_ex hF
          have hR := Rp_at em9 hR
          obtain ⟨x11, ex11, hF⟩ := lt_ex hF
          refine lv_iinc (v := x11) (lv' := [(1, .int x11), (0, .ref (G.2.1 + 78))]) hx hb (dk DX11_remembers 48 rfl) hl (k := 1) rfl (by rw [ex11]; rfl) (by decide) rfl (fun ls hl => ?_)
          refine lv_goto (tgt := 55) hx hb (dk DX11_remembers 49 rfl) (by decide) ?_
          exact ih5 x11 m9 _ _ ls (lv_sub hl [1, 0] rfl) hR hF
    exact L55 1000000 (0 : Int32) m1 _ _ ls (lv_sub hl [1, 0] rfl) hR hF
  refine lv_icmp_ne (tgt := 43) hx hb (dk DX11_remembers 3 rfl) (by decide) (fun c6 => ?_) (fun c6 => ?_)
  · have hF := if_f c6 hF
    refine lv_aload_n hx hb (dk DX11_remembers 22 rfl) rfl (lv_at hl 0 rfl) ?_
    refine lv_dup hx hb (dk DX11_remembers 23 rfl) rfl ?_
    refine gX11_60 C hR ob78 (dk DX11_remembers 24 rfl) ?_
    refine lv_iconst (v := (1 : Int32)) hx hb (dk DX11_remembers 25 rfl) (by decide) ?_
    refine lv_iadd hx hb (dk DX11_remembers 26 rfl) ?_
    refine pX11_60 (x := (gI m0 78 6) + (1 : Int32)) C hR ob78 (dk DX11_remembers 27 rfl) (fun H locs hR => ?_)
    obtain ⟨m12, em12, hF⟩ := lt_ex hF
    have hR := Rp_at em12 hR
    exact J53 m12 _ _ ls (lv_sub hl [0] rfl) hR hF
  · have hF := if_t c6 hF
    refine lv_iconst (v := (0 : Int32)) hx hb (dk DX11_remembers 4 rfl) (by decide) ?_
    refine lv_istore_n (lv' := [(1, .int (0 : Int32)), (0, .ref (G.2.1 + 78))]) hx hb (dk DX11_remembers 5 rfl) rfl hl (by decide) rfl (fun ls hl => ?_)
    obtain ⟨k40_13, ek40_13, hF⟩ := lt_ex hF
    have J40 : ∀ (m13 : Mem) (H : Heap) (locs : List Loc) (ls : Array Slot), lv_has ls 2 [(0, .ref (G.2.1 + 78))] → Rp G mr0 N0 m13 s H locs → k40_13  m13 = some (v, m') → W p l e (rmD 1) s mid args below meth c H locs 0 0 (MQ below (QR G mr0 N0 none m') args s 0 0 (fun q => G.2.1 ≤ q)) (F0 mid 40 ls []) := by
      intro  m13 H locs ls hl hR hF
      rw [ek40_13] at hF
      refine lv_goto (tgt := 53) hx hb (dk DX11_remembers 21 rfl) (by decide) ?_
      exact J53 m13 _ _ ls (lv_sub hl [0] rfl) hR hF
    have L11 : ∀ (nf : Nat) (x15 : Int32) (m14 : Mem) (H : Heap) (locs : List Loc) (ls : Array Slot), lv_has ls 2 [(0, .ref (G.2.1 + 78)), (1, .int x15)] → Rp G mr0 N0 m14 s H locs → F_M_remembers_L11 k40_13 nf x15 m14 = some (v, m') → W p l e (rmD 1) s mid args below meth c H locs 0 0 (MQ below (QR G mr0 N0 none m') args s 0 0 (fun q => G.2.1 ≤ q)) (F0 mid 11 ls []) := by
      intro nf
      induction nf with
      | zero =>
        intro x15 m14 H locs ls hl hR hF
        rw [F_M_remembers_L11] at hF
        cases hF
      | succ nf ih17 =>
        intro x15 m14 H locs ls hl hR hF
        rw [F_M_remembers_L11] at hF
        refine lv_iload_n hx hb (dk DX11_remembers 6 rfl) rfl (lv_at hl 1 rfl) ?_
        refine lv_sipush (v := (3278 : Int32)) hx hb (dk DX11_remembers 7 rfl) (by decide) ?_
        refine lv_icmp_ge (tgt := 40) hx hb (dk DX11_remembers 8 rfl) (by decide) (fun c15 => ?_) (fun c15 => ?_)
        · have hF := if_t c15 hF
          exact J40 m14 _ _ ls (lv_sub hl [0] rfl) hR hF
        · have hF := if_f c15 hF
          refine lv_aload_n hx hb (dk DX11_remembers 9 rfl) rfl (lv_at hl 0 rfl) ?_
          refine gX11_23 C hR ob78 rf78_4 (dk DX11_remembers 10 rfl) ?_
          refine lv_iload_n hx hb (dk DX11_remembers 11 rfl) rfl (lv_at hl 1 rfl) ?_
          refine lv_aload_n hx hb (dk DX11_remembers 12 rfl) rfl (lv_at hl 0 rfl) ?_
          refine gX11_23 C hR ob78 rf78_4 (dk DX11_remembers 13 rfl) ?_
          refine lv_iload_n hx hb (dk DX11_remembers 14 rfl) rfl (lv_at hl 1 rfl) ?_
          refine lv_sipush (v := (298 : Int32)) hx hb (dk DX11_remembers 15 rfl) (by decide) ?_
          refine lv_iadd hx hb (dk DX11_remembers 16 rfl) ?_
          obtain ⟨h18, hF⟩ := ckB_ex hF
          refine r_iald C hR ob82 h18 (dk DX11_remembers 17 rfl) ?_
          refine lv_topi (fun x19 ex19 => ?_)
          have hF := lt_at ex19 hF
          obtain ⟨h21, hF⟩ := ckB_ex hF
          refine r_iast C hR ob82 h21 (dk DX11_remembers 18 rfl) (fun H locs hR => ?_)
          obtain ⟨m20, em20, hF⟩ := lt_ex hF
          have hR := Rp_at em20 hR
          obtain ⟨x22, ex22, hF⟩ := lt_ex hF
          refine lv_iinc (v := x22) (lv' := [(1, .int x22), (0, .ref (G.2.1 + 78))]) hx hb (dk DX11_remembers 19 rfl) hl (k := 1) rfl (by rw [ex22]; rfl) (by decide) rfl (fun ls hl => ?_)
          refine lv_goto (tgt := 11) hx hb (dk DX11_remembers 20 rfl) (by decide) ?_
          exact ih17 x22 m20 _ _ ls (lv_sub hl [1, 0] rfl) hR hF
    exact L11 1000000 (0 : Int32) m0 _ _ ls (lv_sub hl [1, 0] rfl) hR hF
set_option maxHeartbeats 4000000 in
set_option maxRecDepth 100000 in
theorem C_M_anew (l : Launch) (hl0 : l.stackTraces = false) (G : GG) (m0 : Mem) (v : Int32) (m' : Mem) (hF : F_M_anew m0 = some (v, m')) : Ct l G mr0 N0 yX11_anew cX11_anew 3 (some .int) 2 [.ref (G.2.1 + 78)] m0 (some (.int v)) m' := by
  refine Ct_of hl0 (by decide) (Nat.le_of_ble_eq_true rfl) ?_
  intro p e s mid args below meth c ls C hrt hl hR
  have hx := C.1.1
  have hb := C.1.2.1
  have hl : lv_has ls 3 [(0, .ref (G.2.1 + 78))] := hl
  unfold F_M_anew at hF
  refine lv_aload_n hx hb (dk DX11_anew 0 rfl) rfl (lv_at hl 0 rfl) ?_
  refine lv_iconst (v := (0 : Int32)) hx hb (dk DX11_anew 1 rfl) (by decide) ?_
  refine pX11_3 (x := (0 : Int32)) C hR ob78 (dk DX11_anew 2 rfl) (fun H locs hR => ?_)
  obtain ⟨m1, em1, hF⟩ := lt_ex hF
  have hR := Rp_at em1 hR
  refine lv_aload_n hx hb (dk DX11_anew 3 rfl) rfl (lv_at hl 0 rfl) ?_
  obtain ⟨u4, m2, hz3, hF⟩ := bnd_ex hF
  refine r_callVv (As := []) (rest := []) C hR (C_M_remembers l hl0 G m1 _ _ hz3) (by decide) (by decide) ob78 rfl wX11_294 rfl rfl (Nat.le_of_ble_eq_true rfl) hl.1 ⟨Nat.zero_le _, Nat.zero_le _⟩ (dk DX11_anew 4 rfl) (fun H locs hR => ?_)
  refine lv_aload_n hx hb (dk DX11_anew 5 rfl) rfl (lv_at hl 0 rfl) ?_
  obtain ⟨x7, m5, hz6, hF⟩ := bnd_ex hF
  refine r_callVi (As := []) (rest := []) C hR (C_M_played l hl0 G m2 _ _ hz6) (by decide) (by decide) ob78 rfl wX11_288 rfl rfl (Nat.le_of_ble_eq_true rfl) hl.1 ⟨Nat.zero_le _, Nat.zero_le _⟩ (dk DX11_anew 6 rfl) (fun H locs hR => ?_)
  refine lv_istore_n (lv' := [(1, .int x7), (0, .ref (G.2.1 + 78))]) hx hb (dk DX11_anew 7 rfl) rfl hl (by decide) rfl (fun ls hl => ?_)
  refine lv_bipush (v := (10 : Int32)) hx hb (dk DX11_anew 8 rfl) (by decide) ?_
  refine lv_istore_n (lv' := [(2, .int (10 : Int32)), (1, .int x7), (0, .ref (G.2.1 + 78))]) hx hb (dk DX11_anew 9 rfl) rfl hl (by decide) rfl (fun ls hl => ?_)
  obtain ⟨k36_8, ek36_8, hF⟩ := lt_ex hF
  have J36 : ∀ (m8 : Mem) (H : Heap) (locs : List Loc) (ls : Array Slot), lv_has ls 3 [(0, .ref (G.2.1 + 78)), (1, .int x7)] → Rp G mr0 N0 m8 s H locs → k36_8  m8 = some (v, m') → W p l e (rmD 2) s mid args below meth c H locs 0 0 (MQ below (QR G mr0 N0 (some (.int v)) m') args s 0 0 (fun q => G.2.1 ≤ q)) (F0 mid 36 ls []) := by
    intro  m8 H locs ls hl hR hF
    rw [ek36_8] at hF
    refine lv_aload_n hx hb (dk DX11_anew 20 rfl) rfl (lv_at hl 0 rfl) ?_
    refine gX11_13 C hR ob78 rf78_1 (dk DX11_anew 21 rfl) ?_
    refine lv_bipush (v := (10 : Int32)) hx hb (dk DX11_anew 22 rfl) (by decide) ?_
    refine lv_iconst (v := (-1 : Int32)) hx hb (dk DX11_anew 23 rfl) (by decide) ?_
    refine r_iast C hR ob79 rfl (dk DX11_anew 24 rfl) (fun H locs hR => ?_)
    obtain ⟨m9, em9, hF⟩ := lt_ex hF
    have hR := Rp_at em9 hR
    refine lv_aload_n hx hb (dk DX11_anew 25 rfl) rfl (lv_at hl 0 rfl) ?_
    refine gX11_13 C hR ob78 rf78_1 (dk DX11_anew 26 rfl) ?_
    refine lv_bipush (v := (18 : Int32)) hx hb (dk DX11_anew 27 rfl) (by decide) ?_
    refine lv_iconst (v := (-1 : Int32)) hx hb (dk DX11_anew 28 rfl) (by decide) ?_
    refine r_iast C hR ob79 rfl (dk DX11_anew 29 rfl) (fun H locs hR => ?_)
    obtain ⟨m10, em10, hF⟩ := lt_ex hF
    have hR := Rp_at em10 hR
    refine lv_sipush (v := (235 : Int32)) hx hb (dk DX11_anew 30 rfl) (by decide) ?_
    refine lv_istore_n (lv' := [(2, .int (235 : Int32)), (0, .ref (G.2.1 + 78)), (1, .int x7)]) hx hb (dk DX11_anew 31 rfl) rfl hl (by decide) rfl (fun ls hl => ?_)
    have L56 : ∀ (nf : Nat) (x12 : Int32) (m11 : Mem) (H : Heap) (locs : List Loc) (ls : Array Slot), lv_has ls 3 [(0, .ref (G.2.1 + 78)), (1, .int x7), (2, .int x12)] → Rp G mr0 N0 m11 s H locs → F_M_anew_L56 x7 nf x12 m11 = some (v, m') → W p l e (rmD 2) s mid args below meth c H locs 0 0 (MQ below (QR G mr0 N0 (some (.int v)) m') args s 0 0 (fun q => G.2.1 ≤ q)) (F0 mid 56 ls []) := by
      intro nf
      induction nf with
      | zero =>
        intro x12 m11 H locs ls hl hR hF
        rw [F_M_anew_L56] at hF
        cases hF
      | succ nf ih14 =>
        intro x12 m11 H locs ls hl hR hF
        rw [F_M_anew_L56] at hF
        refine lv_iload_n hx hb (dk DX11_anew 32 rfl) rfl (lv_at hl 2 rfl) ?_
        refine lv_sipush (v := (298 : Int32)) hx hb (dk DX11_anew 33 rfl) (by decide) ?_
        refine lv_icmp_ge (tgt := 76) hx hb (dk DX11_anew 34 rfl) (by decide) (fun c60 => ?_) (fun c60 => ?_)
        · have hF := if_t c60 hF
          refine lv_iload_n hx hb (dk DX11_anew 42 rfl) rfl (lv_at hl 1 rfl) ?_
          cases hF
          exact r_iret (v := x7) C hrt hR (dk DX11_anew 43 rfl)
        · have hF := if_f c60 hF
          refine lv_aload_n hx hb (dk DX11_anew 35 rfl) rfl (lv_at hl 0 rfl) ?_
          refine gX11_13 C hR ob78 rf78_1 (dk DX11_anew 36 rfl) ?_
          refine lv_iload_n hx hb (dk DX11_anew 37 rfl) rfl (lv_at hl 2 rfl) ?_
          refine lv_iconst (v := (0 : Int32)) hx hb (dk DX11_anew 38 rfl) (by decide) ?_
          obtain ⟨h16, hF⟩ := ckB_ex hF
          refine r_iast C hR ob79 h16 (dk DX11_anew 39 rfl) (fun H locs hR => ?_)
          obtain ⟨m15, em15, hF⟩ := lt_ex hF
          have hR := Rp_at em15 hR
          obtain ⟨x17, ex17, hF⟩ := lt_ex hF
          refine lv_iinc (v := x17) (lv' := [(2, .int x17), (0, .ref (G.2.1 + 78)), (1, .int x7)]) hx hb (dk DX11_anew 40 rfl) hl (k := 2) rfl (by rw [ex17]; rfl) (by decide) rfl (fun ls hl => ?_)
          refine lv_goto (tgt := 56) hx hb (dk DX11_anew 41 rfl) (by decide) ?_
          exact ih14 x17 m15 _ _ ls (lv_sub hl [1, 2, 0] rfl) hR hF
    exact L56 1000000 (235 : Int32) m10 _ _ ls (lv_sub hl [1, 2, 0] rfl) hR hF
  have L17 : ∀ (nf : Nat) (x19 : Int32) (m18 : Mem) (H : Heap) (locs : List Loc) (ls : Array Slot), lv_has ls 3 [(0, .ref (G.2.1 + 78)), (1, .int x7), (2, .int x19)] → Rp G mr0 N0 m18 s H locs → F_M_anew_L17 k36_8 nf x19 m18 = some (v, m') → W p l e (rmD 2) s mid args below meth c H locs 0 0 (MQ below (QR G mr0 N0 (some (.int v)) m') args s 0 0 (fun q => G.2.1 ≤ q)) (F0 mid 17 ls []) := by
    intro nf
    induction nf with
    | zero =>
      intro x19 m18 H locs ls hl hR hF
      rw [F_M_anew_L17] at hF
      cases hF
    | succ nf ih21 =>
      intro x19 m18 H locs ls hl hR hF
      rw [F_M_anew_L17] at hF
      refine lv_iload_n hx hb (dk DX11_anew 10 rfl) rfl (lv_at hl 2 rfl) ?_
      refine lv_bipush (v := (19 : Int32)) hx hb (dk DX11_anew 11 rfl) (by decide) ?_
      refine lv_icmp_ge (tgt := 36) hx hb (dk DX11_anew 12 rfl) (by decide) (fun c20 => ?_) (fun c20 => ?_)
      · have hF := if_t c20 hF
        exact J36 m18 _ _ ls (lv_sub hl [0, 1] rfl) hR hF
      · have hF := if_f c20 hF
        refine lv_aload_n hx hb (dk DX11_anew 13 rfl) rfl (lv_at hl 0 rfl) ?_
        refine gX11_13 C hR ob78 rf78_1 (dk DX11_anew 14 rfl) ?_
        refine lv_iload_n hx hb (dk DX11_anew 15 rfl) rfl (lv_at hl 2 rfl) ?_
        refine lv_iconst (v := (0 : Int32)) hx hb (dk DX11_anew 16 rfl) (by decide) ?_
        obtain ⟨h23, hF⟩ := ckB_ex hF
        refine r_iast C hR ob79 h23 (dk DX11_anew 17 rfl) (fun H locs hR => ?_)
        obtain ⟨m22, em22, hF⟩ := lt_ex hF
        have hR := Rp_at em22 hR
        obtain ⟨x24, ex24, hF⟩ := lt_ex hF
        refine lv_iinc (v := x24) (lv' := [(2, .int x24), (0, .ref (G.2.1 + 78)), (1, .int x7)]) hx hb (dk DX11_anew 18 rfl) hl (k := 2) rfl (by rw [ex24]; rfl) (by decide) rfl (fun ls hl => ?_)
        refine lv_goto (tgt := 17) hx hb (dk DX11_anew 19 rfl) (by decide) ?_
        exact ih21 x24 m22 _ _ ls (lv_sub hl [1, 2, 0] rfl) hR hF
  exact L17 1000000 (10 : Int32) m5 _ _ ls (lv_sub hl [2, 1, 0] rfl) hR hF
set_option maxHeartbeats 4000000 in
set_option maxRecDepth 100000 in
theorem C_M_back (l : Launch) (hl0 : l.stackTraces = false) (G : GG) (m0 : Mem) (v : Bool) (m' : Mem) (hF : F_M_back m0 = some (v, m')) : Ct l G mr0 N0 yX11_back cX11_back 2 (some .boolean) 1 [.ref (G.2.1 + 78)] m0 (some (.int (b2i v))) m' := by
  refine Ct_of hl0 (by decide) (Nat.le_of_ble_eq_true rfl) ?_
  intro p e s mid args below meth c ls C hrt hl hR
  have hx := C.1.1
  have hb := C.1.2.1
  have hl : lv_has ls 2 [(0, .ref (G.2.1 + 78))] := hl
  unfold F_M_back at hF
  refine lv_aload_n hx hb (dk DX11_back 0 rfl) rfl (lv_at hl 0 rfl) ?_
  refine lv_iconst (v := (0 : Int32)) hx hb (dk DX11_back 1 rfl) (by decide) ?_
  refine pX11_3 (x := (0 : Int32)) C hR ob78 (dk DX11_back 2 rfl) (fun H locs hR => ?_)
  obtain ⟨m1, em1, hF⟩ := lt_ex hF
  have hR := Rp_at em1 hR
  refine lv_aload_n hx hb (dk DX11_back 3 rfl) rfl (lv_at hl 0 rfl) ?_
  refine gX11_56 C hR ob78 (dk DX11_back 4 rfl) ?_
  refine z_ifne (tgt := 14) hx hb (dk DX11_back 5 rfl) (by decide) (fun c9 => ?_) (fun c9 => ?_)
  · have hF := if_t c9 hF
    refine lv_iconst (v := (0 : Int32)) hx hb (dk DX11_back 8 rfl) (by decide) ?_
    refine lv_istore_n (lv' := [(1, .int (0 : Int32)), (0, .ref (G.2.1 + 78))]) hx hb (dk DX11_back 9 rfl) rfl hl (by decide) rfl (fun ls hl => ?_)
    obtain ⟨k41_2, ek41_2, hF⟩ := lt_ex hF
    have J41 : ∀ (m2 : Mem) (H : Heap) (locs : List Loc) (ls : Array Slot), lv_has ls 2 [(0, .ref (G.2.1 + 78))] → Rp G mr0 N0 m2 s H locs → k41_2  m2 = some (v, m') → W p l e (rmD 1) s mid args below meth c H locs 0 0 (MQ below (QR G mr0 N0 (some (.int (b2i v))) m') args s 0 0 (fun q => G.2.1 ≤ q)) (F0 mid 41 ls []) := by
      intro  m2 H locs ls hl hR hF
      rw [ek41_2] at hF
      refine lv_aload_n hx hb (dk DX11_back 23 rfl) rfl (lv_at hl 0 rfl) ?_
      refine lv_iconst (v := (0 : Int32)) hx hb (dk DX11_back 24 rfl) (by decide) ?_
      refine pX11_60 (x := (0 : Int32)) C hR ob78 (dk DX11_back 25 rfl) (fun H locs hR => ?_)
      obtain ⟨m3, em3, hF⟩ := lt_ex hF
      have hR := Rp_at em3 hR
      refine lv_iconst (v := (1 : Int32)) hx hb (dk DX11_back 26 rfl) (by decide) ?_
      cases hF
      exact r_zret (v := true) C hrt hR (dk DX11_back 27 rfl)
    have L16 : ∀ (nf : Nat) (x5 : Int32) (m4 : Mem) (H : Heap) (locs : List Loc) (ls : Array Slot), lv_has ls 2 [(0, .ref (G.2.1 + 78)), (1, .int x5)] → Rp G mr0 N0 m4 s H locs → F_M_back_L16 k41_2 nf x5 m4 = some (v, m') → W p l e (rmD 1) s mid args below meth c H locs 0 0 (MQ below (QR G mr0 N0 (some (.int (b2i v))) m') args s 0 0 (fun q => G.2.1 ≤ q)) (F0 mid 16 ls []) := by
      intro nf
      induction nf with
      | zero =>
        intro x5 m4 H locs ls hl hR hF
        rw [F_M_back_L16] at hF
        cases hF
      | succ nf ih7 =>
        intro x5 m4 H locs ls hl hR hF
        rw [F_M_back_L16] at hF
        refine lv_iload_n hx hb (dk DX11_back 10 rfl) rfl (lv_at hl 1 rfl) ?_
        refine lv_sipush (v := (1135 : Int32)) hx hb (dk DX11_back 11 rfl) (by decide) ?_
        refine lv_icmp_ge (tgt := 41) hx hb (dk DX11_back 12 rfl) (by decide) (fun c20 => ?_) (fun c20 => ?_)
        · have hF := if_t c20 hF
          exact J41 m4 _ _ ls (lv_sub hl [0] rfl) hR hF
        · have hF := if_f c20 hF
          refine lv_aload_n hx hb (dk DX11_back 13 rfl) rfl (lv_at hl 0 rfl) ?_
          refine gX11_13 C hR ob78 rf78_1 (dk DX11_back 14 rfl) ?_
          refine lv_iload_n hx hb (dk DX11_back 15 rfl) rfl (lv_at hl 1 rfl) ?_
          refine lv_aload_n hx hb (dk DX11_back 16 rfl) rfl (lv_at hl 0 rfl) ?_
          refine gX11_17 C hR ob78 rf78_2 (dk DX11_back 17 rfl) ?_
          refine lv_iload_n hx hb (dk DX11_back 18 rfl) rfl (lv_at hl 1 rfl) ?_
          obtain ⟨h8, hF⟩ := ckB_ex hF
          refine r_iald C hR ob80 h8 (dk DX11_back 19 rfl) ?_
          refine lv_topi (fun x9 ex9 => ?_)
          have hF := lt_at ex9 hF
          obtain ⟨h11, hF⟩ := ckB_ex hF
          refine r_iast C hR ob79 h11 (dk DX11_back 20 rfl) (fun H locs hR => ?_)
          obtain ⟨m10, em10, hF⟩ := lt_ex hF
          have hR := Rp_at em10 hR
          obtain ⟨x12, ex12, hF⟩ := lt_ex hF
          refine lv_iinc (v := x12) (lv' := [(1, .int x12), (0, .ref (G.2.1 + 78))]) hx hb (dk DX11_back 21 rfl) hl (k := 1) rfl (by rw [ex12]; rfl) (by decide) rfl (fun ls hl => ?_)
          refine lv_goto (tgt := 16) hx hb (dk DX11_back 22 rfl) (by decide) ?_
          exact ih7 x12 m10 _ _ ls (lv_sub hl [1, 0] rfl) hR hF
    exact L16 1000000 (0 : Int32) m1 _ _ ls (lv_sub hl [1, 0] rfl) hR hF
  · have hF := if_f c9 hF
    refine lv_iconst (v := (0 : Int32)) hx hb (dk DX11_back 6 rfl) (by decide) ?_
    cases hF
    exact r_zret (v := false) C hrt hR (dk DX11_back 7 rfl)
set_option maxHeartbeats 4000000 in
set_option maxRecDepth 100000 in
theorem C_M_uses (l : Launch) (hl0 : l.stackTraces = false) (G : GG) (m0 : Mem) (v : Unit) (m' : Mem) (hF : F_M_uses m0 = some (v, m')) : Ct l G mr0 N0 yX11_uses cX11_uses 1 none 1 [.ref (G.2.1 + 78)] m0 none m' := by
  refine Ct_of hl0 (by decide) (Nat.le_of_ble_eq_true rfl) ?_
  intro p e s mid args below meth c ls C hrt hl hR
  have hx := C.1.1
  have hb := C.1.2.1
  have hl : lv_has ls 1 [(0, .ref (G.2.1 + 78))] := hl
  unfold F_M_uses at hF
  refine lv_aload_n hx hb (dk DX11_uses 0 rfl) rfl (lv_at hl 0 rfl) ?_
  refine lv_iconst (v := (0 : Int32)) hx hb (dk DX11_uses 1 rfl) (by decide) ?_
  refine pX11_3 (x := (0 : Int32)) C hR ob78 (dk DX11_uses 2 rfl) (fun H locs hR => ?_)
  obtain ⟨m1, em1, hF⟩ := lt_ex hF
  have hR := Rp_at em1 hR
  refine lv_aload_n hx hb (dk DX11_uses 3 rfl) rfl (lv_at hl 0 rfl) ?_
  refine lv_aload_n hx hb (dk DX11_uses 4 rfl) rfl (lv_at hl 0 rfl) ?_
  refine gX11_71 C hR ob78 (dk DX11_uses 5 rfl) ?_
  refine pX11_77 (x := gI m1 78 8) C hR ob78 (dk DX11_uses 6 rfl) (fun H locs hR => ?_)
  obtain ⟨m2, em2, hF⟩ := lt_ex hF
  have hR := Rp_at em2 hR
  refine lv_aload_n hx hb (dk DX11_uses 7 rfl) rfl (lv_at hl 0 rfl) ?_
  refine lv_iconst (v := (0 : Int32)) hx hb (dk DX11_uses 8 rfl) (by decide) ?_
  refine pX11_71 (x := (0 : Int32)) C hR ob78 (dk DX11_uses 9 rfl) (fun H locs hR => ?_)
  obtain ⟨m3, em3, hF⟩ := lt_ex hF
  have hR := Rp_at em3 hR
  refine lv_aload_n hx hb (dk DX11_uses 10 rfl) rfl (lv_at hl 0 rfl) ?_
  refine lv_iconst (v := (0 : Int32)) hx hb (dk DX11_uses 11 rfl) (by decide) ?_
  refine pX11_74 (x := (0 : Int32)) C hR ob78 (dk DX11_uses 12 rfl) (fun H locs hR => ?_)
  obtain ⟨m4, em4, hF⟩ := lt_ex hF
  have hR := Rp_at em4 hR
  cases hF
  exact r_vret C hrt hR (dk DX11_uses 13 rfl)
set_option maxHeartbeats 4000000 in
set_option maxRecDepth 100000 in
theorem C_M_readSigns (l : Launch) (hl0 : l.stackTraces = false) (G : GG) (m0 : Mem) (v : Bool) (m' : Mem) (hF : F_M_readSigns m0 = some (v, m')) : Ct l G mr0 N0 yX11_readSigns cX11_readSigns 3 (some .boolean) 2 [.ref (G.2.1 + 78)] m0 (some (.int (b2i v))) m' := by
  refine Ct_of hl0 (by decide) (Nat.le_of_ble_eq_true rfl) ?_
  intro p e s mid args below meth c ls C hrt hl hR
  have hx := C.1.1
  have hb := C.1.2.1
  have hl : lv_has ls 3 [(0, .ref (G.2.1 + 78))] := hl
  unfold F_M_readSigns at hF
  refine lv_aload_n hx hb (dk DX11_readSigns 0 rfl) rfl (lv_at hl 0 rfl) ?_
  obtain ⟨u3, m1, hz2, hF⟩ := bnd_ex hF
  refine r_callVv (As := []) (rest := []) C hR (C_M_uses l hl0 G m0 _ _ hz2) (by decide) (by decide) ob78 rfl wX11_216 rfl rfl (Nat.le_of_ble_eq_true rfl) hl.1 ⟨Nat.zero_le _, Nat.zero_le _⟩ (dk DX11_readSigns 1 rfl) (fun H locs hR => ?_)
  refine lv_aload_n hx hb (dk DX11_readSigns 2 rfl) rfl (lv_at hl 0 rfl) ?_
  refine gX11_77 C hR ob78 (dk DX11_readSigns 3 rfl) ?_
  refine lv_iconst (v := (4 : Int32)) hx hb (dk DX11_readSigns 4 rfl) (by decide) ?_
  refine lv_irem hx hb (dk DX11_readSigns 5 rfl) (by decide) ?_
  refine lv_topi (fun x4 ex4 => ?_)
  have hF := lt_at ex4 hF
  obtain ⟨k18_6, ek18_6, hF⟩ := lt_ex hF
  have J18 : ∀ (z6 : Bool) (m5 : Mem) (H : Heap) (locs : List Loc) (ls : Array Slot), lv_has ls 3 [(0, .ref (G.2.1 + 78))] → Rp G mr0 N0 m5 s H locs → k18_6 z6 m5 = some (v, m') → W p l e (rmD 2) s mid args below meth c H locs 0 0 (MQ below (QR G mr0 N0 (some (.int (b2i v))) m') args s 0 0 (fun q => G.2.1 ≤ q)) (F0 mid 18 ls [.int (b2i z6)]) := by
    intro z6 m5 H locs ls hl hR hF
    rw [ek18_6] at hF
    refine lv_istore_n (lv' := [(1, .int (b2i z6)), (0, .ref (G.2.1 + 78))]) hx hb (dk DX11_readSigns 10 rfl) rfl hl (by decide) rfl (fun ls hl => ?_)
    refine lv_iconst (v := (0 : Int32)) hx hb (dk DX11_readSigns 11 rfl) (by decide) ?_
    refine lv_istore_n (lv' := [(2, .int (0 : Int32)), (1, .int (b2i z6)), (0, .ref (G.2.1 + 78))]) hx hb (dk DX11_readSigns 12 rfl) rfl hl (by decide) rfl (fun ls hl => ?_)
    have L21 : ∀ (nf : Nat) (z8 : Bool) (x9 : Int32) (m7 : Mem) (H : Heap) (locs : List Loc) (ls : Array Slot), lv_has ls 3 [(0, .ref (G.2.1 + 78)), (1, .int (b2i z8)), (2, .int x9)] → Rp G mr0 N0 m7 s H locs → F_M_readSigns_L21 nf z8 x9 m7 = some (v, m') → W p l e (rmD 2) s mid args below meth c H locs 0 0 (MQ below (QR G mr0 N0 (some (.int (b2i v))) m') args s 0 0 (fun q => G.2.1 ≤ q)) (F0 mid 21 ls []) := by
      intro nf
      induction nf with
      | zero =>
        intro z8 x9 m7 H locs ls hl hR hF
        rw [F_M_readSigns_L21] at hF
        cases hF
      | succ nf ih11 =>
        intro z8 x9 m7 H locs ls hl hR hF
        rw [F_M_readSigns_L21] at hF
        refine lv_iload_n hx hb (dk DX11_readSigns 13 rfl) rfl (lv_at hl 2 rfl) ?_
        refine lv_aload_n hx hb (dk DX11_readSigns 14 rfl) rfl (lv_at hl 0 rfl) ?_
        refine gX11_77 C hR ob78 (dk DX11_readSigns 15 rfl) ?_
        refine lv_icmp_ge (tgt := 70) hx hb (dk DX11_readSigns 16 rfl) (by decide) (fun c26 => ?_) (fun c26 => ?_)
        · have hF := if_t c26 hF
          refine lv_iload_n hx hb (dk DX11_readSigns 40 rfl) rfl (lv_at hl 1 rfl) ?_
          cases hF
          exact r_zret (v := z8) C hrt hR (dk DX11_readSigns 41 rfl)
        · have hF := if_f c26 hF
          refine lv_iload_n hx hb (dk DX11_readSigns 17 rfl) rfl (lv_at hl 1 rfl) ?_
          obtain ⟨k63_13, ek63_13, hF⟩ := lt_ex hF
          have J63 : ∀ (z13 : Bool) (m12 : Mem) (H : Heap) (locs : List Loc) (ls : Array Slot), lv_has ls 3 [(0, .ref (G.2.1 + 78)), (2, .int x9)] → Rp G mr0 N0 m12 s H locs → k63_13 z13 m12 = some (v, m') → W p l e (rmD 2) s mid args below meth c H locs 0 0 (MQ below (QR G mr0 N0 (some (.int (b2i v))) m') args s 0 0 (fun q => G.2.1 ≤ q)) (F0 mid 63 ls [.int (b2i z13)]) := by
            intro z13 m12 H locs ls hl hR hF
            rw [ek63_13] at hF
            refine lv_istore_n (lv' := [(1, .int (b2i z13)), (0, .ref (G.2.1 + 78)), (2, .int x9)]) hx hb (dk DX11_readSigns 37 rfl) rfl hl (by decide) rfl (fun ls hl => ?_)
            obtain ⟨x14, ex14, hF⟩ := lt_ex hF
            refine lv_iinc (v := x14) (lv' := [(2, .int x14), (1, .int (b2i z13)), (0, .ref (G.2.1 + 78))]) hx hb (dk DX11_readSigns 38 rfl) hl (k := 2) rfl (by rw [ex14]; rfl) (by decide) rfl (fun ls hl => ?_)
            refine lv_goto (tgt := 21) hx hb (dk DX11_readSigns 39 rfl) (by decide) ?_
            exact ih11 z13 x14 m12 _ _ ls (lv_sub hl [2, 1, 0] rfl) hR hF
          obtain ⟨k62_15, ek62_15, hF⟩ := lt_ex hF
          have J62 : ∀ (m15 : Mem) (H : Heap) (locs : List Loc) (ls : Array Slot), lv_has ls 3 [(0, .ref (G.2.1 + 78)), (2, .int x9)] → Rp G mr0 N0 m15 s H locs → k62_15  m15 = some (v, m') → W p l e (rmD 2) s mid args below meth c H locs 0 0 (MQ below (QR G mr0 N0 (some (.int (b2i v))) m') args s 0 0 (fun q => G.2.1 ≤ q)) (F0 mid 62 ls []) := by
            intro  m15 H locs ls hl hR hF
            rw [ek62_15] at hF
            refine lv_iconst (v := (0 : Int32)) hx hb (dk DX11_readSigns 36 rfl) (by decide) ?_
            exact J63 false m15 _ _ ls (lv_sub hl [0, 1] rfl) hR hF
          refine z_ifeq (tgt := 62) hx hb (dk DX11_readSigns 18 rfl) (by decide) (fun c30 => ?_) (fun c30 => ?_)
          · have hF := if_f c30 hF
            exact J62 m7 _ _ ls (lv_sub hl [0, 2] rfl) hR hF
          · have hF := if_t c30 hF
            refine lv_aload_n hx hb (dk DX11_readSigns 19 rfl) rfl (lv_at hl 0 rfl) ?_
            refine gX11_26 C hR ob78 rf78_7 (dk DX11_readSigns 20 rfl) ?_
            refine lv_iload_n hx hb (dk DX11_readSigns 21 rfl) rfl (lv_at hl 2 rfl) ?_
            obtain ⟨h16, hF⟩ := ckB_ex hF
            refine r_bald C hR ob83 h16 (dk DX11_readSigns 22 rfl) ?_
            refine lv_topi (fun x17 ex17 => ?_)
            have hF := lt_at ex17 hF
            refine lv_iconst (v := (0 : Int32)) hx hb (dk DX11_readSigns 23 rfl) (by decide) ?_
            refine lv_iload_n hx hb (dk DX11_readSigns 24 rfl) rfl (lv_at hl 2 rfl) ?_
            refine lv_iconst (v := (4 : Int32)) hx hb (dk DX11_readSigns 25 rfl) (by decide) ?_
            refine lv_irem hx hb (dk DX11_readSigns 26 rfl) (by decide) ?_
            refine lv_iconst (v := (3 : Int32)) hx hb (dk DX11_readSigns 27 rfl) (by decide) ?_
            obtain ⟨k52_19, ek52_19, hF⟩ := lt_ex hF
            have J52 : ∀ (x19 : Int32) (m18 : Mem) (H : Heap) (locs : List Loc) (ls : Array Slot), lv_has ls 3 [(0, .ref (G.2.1 + 78)), (2, .int x9)] → Rp G mr0 N0 m18 s H locs → k52_19 x19 m18 = some (v, m') → W p l e (rmD 2) s mid args below meth c H locs 0 0 (MQ below (QR G mr0 N0 (some (.int (b2i v))) m') args s 0 0 (fun q => G.2.1 ≤ q)) (F0 mid 52 ls [.int x19, .int (0 : Int32), .int x17]) := by
              intro x19 m18 H locs ls hl hR hF
              rw [ek52_19] at hF
              obtain ⟨z22, m20, hz21, hF⟩ := bnd_ex hF
              refine r_callSi (As := [.int x17, .int (0 : Int32), .int x19]) (rest := []) C hR (C_M_in l hl0 G x17 (0 : Int32) x19 m18 _ _ hz21) (by decide) (by decide) wX11_67 rfl rfl (Nat.le_of_ble_eq_true rfl) hl.1 ⟨Nat.zero_le _, Nat.zero_le _⟩ (dk DX11_readSigns 32 rfl) (fun H locs hR => ?_)
              refine z_ifeq (tgt := 62) hx hb (dk DX11_readSigns 33 rfl) (by decide) (fun c55 => ?_) (fun c55 => ?_)
              · have hF := if_f c55 hF
                exact J62 m20 _ _ ls (lv_sub hl [0, 1] rfl) hR hF
              · have hF := if_t c55 hF
                refine lv_iconst (v := (1 : Int32)) hx hb (dk DX11_readSigns 34 rfl) (by decide) ?_
                refine lv_goto (tgt := 63) hx hb (dk DX11_readSigns 35 rfl) (by decide) ?_
                exact J63 true m20 _ _ ls (lv_sub hl [0, 1] rfl) hR hF
            refine lv_icmp_ne (tgt := 51) hx hb (dk DX11_readSigns 28 rfl) (by decide) (fun c44 => ?_) (fun c44 => ?_)
            · have hF := if_f c44 hF
              refine lv_iconst (v := (3 : Int32)) hx hb (dk DX11_readSigns 31 rfl) (by decide) ?_
              exact J52 (3 : Int32) m7 _ _ ls (lv_sub hl [0, 2] rfl) hR hF
            · have hF := if_t c44 hF
              refine lv_iconst (v := (1 : Int32)) hx hb (dk DX11_readSigns 29 rfl) (by decide) ?_
              refine lv_goto (tgt := 52) hx hb (dk DX11_readSigns 30 rfl) (by decide) ?_
              exact J52 (1 : Int32) m7 _ _ ls (lv_sub hl [0, 2] rfl) hR hF
    exact L21 1000000 z6 (0 : Int32) m5 _ _ ls (lv_sub hl [2, 1, 0] rfl) hR hF
  refine lv_if_ne (tgt := 17) hx hb (dk DX11_readSigns 6 rfl) (by decide) (fun c10 => ?_) (fun c10 => ?_)
  · have hF := if_f c10 hF
    refine lv_iconst (v := (0 : Int32)) hx hb (dk DX11_readSigns 9 rfl) (by decide) ?_
    exact J18 false m1 _ _ ls (lv_sub hl [0] rfl) hR hF
  · have hF := if_t c10 hF
    refine lv_iconst (v := (1 : Int32)) hx hb (dk DX11_readSigns 7 rfl) (by decide) ?_
    refine lv_goto (tgt := 18) hx hb (dk DX11_readSigns 8 rfl) (by decide) ?_
    exact J18 true m1 _ _ ls (lv_sub hl [0] rfl) hR hF
set_option maxHeartbeats 4000000 in
set_option maxRecDepth 100000 in
theorem C_M_mornings (l : Launch) (hl0 : l.stackTraces = false) (G : GG) (a1 : Int32) (a2 : Int32) (a3 : Int32) (a4 : Int32) (a5 : Bool) (m0 : Mem) (v : Int32) (m' : Mem) (hF : F_M_mornings a1 a2 a3 a4 a5 m0 = some (v, m')) : Ct l G mr0 N0 yX11_mornings cX11_mornings 8 (some .int) 1 [.ref (G.2.1 + 78), .int a1, .int a2, .int a3, .int a4, .int (b2i a5)] m0 (some (.int v)) m' := by
  refine Ct_of hl0 (by decide) (Nat.le_of_ble_eq_true rfl) ?_
  intro p e s mid args below meth c ls C hrt hl hR
  have hx := C.1.1
  have hb := C.1.2.1
  have hl : lv_has ls 8 [(0, .ref (G.2.1 + 78)), (1, .int a1), (2, .int a2), (3, .int a3), (4, .int a4), (5, .int (b2i a5))] := hl
  unfold F_M_mornings at hF
  refine lv_iconst (v := (0 : Int32)) hx hb (dk DX11_mornings 0 rfl) (by decide) ?_
  refine lv_istore (lv' := [(6, .int (0 : Int32)), (0, .ref (G.2.1 + 78)), (1, .int a1), (2, .int a2), (3, .int a3), (4, .int a4), (5, .int (b2i a5))]) hx hb (dk DX11_mornings 1 rfl) hl (by decide) rfl (fun ls hl => ?_)
  refine lv_iconst (v := (0 : Int32)) hx hb (dk DX11_mornings 2 rfl) (by decide) ?_
  refine lv_istore (lv' := [(7, .int (0 : Int32)), (6, .int (0 : Int32)), (0, .ref (G.2.1 + 78)), (1, .int a1), (2, .int a2), (3, .int a3), (4, .int a4), (5, .int (b2i a5))]) hx hb (dk DX11_mornings 3 rfl) hl (by decide) rfl (fun ls hl => ?_)
  have L6 : ∀ (nf : Nat) (x2 : Int32) (x3 : Int32) (m1 : Mem) (H : Heap) (locs : List Loc) (ls : Array Slot), lv_has ls 8 [(0, .ref (G.2.1 + 78)), (1, .int a1), (2, .int a2), (3, .int a3), (4, .int a4), (5, .int (b2i a5)), (6, .int x2), (7, .int x3)] → Rp G mr0 N0 m1 s H locs → F_M_mornings_L6 a1 a2 a3 a4 a5 nf x2 x3 m1 = some (v, m') → W p l e (rmD 1) s mid args below meth c H locs 0 0 (MQ below (QR G mr0 N0 (some (.int v)) m') args s 0 0 (fun q => G.2.1 ≤ q)) (F0 mid 6 ls []) := by
    intro nf
    induction nf with
    | zero =>
      intro x2 x3 m1 H locs ls hl hR hF
      rw [F_M_mornings_L6] at hF
      cases hF
    | succ nf ih5 =>
      intro x2 x3 m1 H locs ls hl hR hF
      rw [F_M_mornings_L6] at hF
      refine lv_iload hx hb (dk DX11_mornings 4 rfl) (lv_at hl 7 rfl) ?_
      refine lv_aload_n hx hb (dk DX11_mornings 5 rfl) rfl (lv_at hl 0 rfl) ?_
      refine gX11_77 C hR ob78 (dk DX11_mornings 6 rfl) ?_
      refine lv_icmp_ge (tgt := 80) hx hb (dk DX11_mornings 7 rfl) (by decide) (fun c12 => ?_) (fun c12 => ?_)
      · have hF := if_t c12 hF
        refine lv_iload hx hb (dk DX11_mornings 44 rfl) (lv_at hl 6 rfl) ?_
        cases hF
        exact r_iret (v := x2) C hrt hR (dk DX11_mornings 45 rfl)
      · have hF := if_f c12 hF
        refine lv_iload hx hb (dk DX11_mornings 8 rfl) (lv_at hl 6 rfl) ?_
        refine lv_aload_n hx hb (dk DX11_mornings 9 rfl) rfl (lv_at hl 0 rfl) ?_
        refine gX11_26 C hR ob78 rf78_7 (dk DX11_mornings 10 rfl) ?_
        refine lv_iload hx hb (dk DX11_mornings 11 rfl) (lv_at hl 7 rfl) ?_
        refine lv_iload_n hx hb (dk DX11_mornings 12 rfl) rfl (lv_at hl 1 rfl) ?_
        refine lv_iadd hx hb (dk DX11_mornings 13 rfl) ?_
        obtain ⟨h6, hF⟩ := ckB_ex hF
        refine r_bald C hR ob83 h6 (dk DX11_mornings 14 rfl) ?_
        refine lv_topi (fun x7 ex7 => ?_)
        have hF := lt_at ex7 hF
        refine lv_iload_n hx hb (dk DX11_mornings 15 rfl) rfl (lv_at hl 2 rfl) ?_
        obtain ⟨k71_9, ek71_9, hF⟩ := lt_ex hF
        have J71 : ∀ (z9 : Bool) (m8 : Mem) (H : Heap) (locs : List Loc) (ls : Array Slot), lv_has ls 8 [(0, .ref (G.2.1 + 78)), (1, .int a1), (2, .int a2), (3, .int a3), (4, .int a4), (5, .int (b2i a5)), (7, .int x3)] → Rp G mr0 N0 m8 s H locs → k71_9 z9 m8 = some (v, m') → W p l e (rmD 1) s mid args below meth c H locs 0 0 (MQ below (QR G mr0 N0 (some (.int v)) m') args s 0 0 (fun q => G.2.1 ≤ q)) (F0 mid 71 ls [.int (b2i z9), .int x2]) := by
          intro z9 m8 H locs ls hl hR hF
          rw [ek71_9] at hF
          refine lv_iadd hx hb (dk DX11_mornings 40 rfl) ?_
          refine lv_topi (fun x10 ex10 => ?_)
          have hF := lt_at ex10 hF
          refine lv_istore (lv' := [(6, .int x10), (0, .ref (G.2.1 + 78)), (1, .int a1), (2, .int a2), (3, .int a3), (4, .int a4), (5, .int (b2i a5)), (7, .int x3)]) hx hb (dk DX11_mornings 41 rfl) hl (by decide) rfl (fun ls hl => ?_)
          obtain ⟨x11, ex11, hF⟩ := lt_ex hF
          refine lv_iinc (v := x11) (lv' := [(7, .int x11), (6, .int x10), (0, .ref (G.2.1 + 78)), (1, .int a1), (2, .int a2), (3, .int a3), (4, .int a4), (5, .int (b2i a5))]) hx hb (dk DX11_mornings 42 rfl) hl (k := 7) rfl (by rw [ex11]; rfl) (by decide) rfl (fun ls hl => ?_)
          refine lv_goto (tgt := 6) hx hb (dk DX11_mornings 43 rfl) (by decide) ?_
          exact ih5 x10 x11 m8 _ _ ls (lv_sub hl [2, 3, 4, 5, 6, 7, 1, 0] rfl) hR hF
        obtain ⟨k70_12, ek70_12, hF⟩ := lt_ex hF
        have J70 : ∀ (m12 : Mem) (H : Heap) (locs : List Loc) (ls : Array Slot), lv_has ls 8 [(0, .ref (G.2.1 + 78)), (1, .int a1), (2, .int a2), (3, .int a3), (4, .int a4), (5, .int (b2i a5)), (7, .int x3)] → Rp G mr0 N0 m12 s H locs → k70_12  m12 = some (v, m') → W p l e (rmD 1) s mid args below meth c H locs 0 0 (MQ below (QR G mr0 N0 (some (.int v)) m') args s 0 0 (fun q => G.2.1 ≤ q)) (F0 mid 70 ls [.int x2]) := by
          intro  m12 H locs ls hl hR hF
          rw [ek70_12] at hF
          refine lv_iconst (v := (0 : Int32)) hx hb (dk DX11_mornings 39 rfl) (by decide) ?_
          exact J71 false m12 _ _ ls (lv_sub hl [0, 1, 2, 3, 4, 5, 6] rfl) hR hF
        refine lv_icmp_ne (tgt := 70) hx hb (dk DX11_mornings 16 rfl) (by decide) (fun c27 => ?_) (fun c27 => ?_)
        · have hF := if_f c27 hF
          exact J70 m1 _ _ ls (lv_sub hl [0, 1, 2, 3, 4, 5, 7] rfl) hR hF
        · have hF := if_t c27 hF
          refine lv_iload_n hx hb (dk DX11_mornings 17 rfl) rfl (lv_at hl 3 rfl) ?_
          obtain ⟨k48_13, ek48_13, hF⟩ := lt_ex hF
          have J48 : ∀ (m13 : Mem) (H : Heap) (locs : List Loc) (ls : Array Slot), lv_has ls 8 [(0, .ref (G.2.1 + 78)), (1, .int a1), (2, .int a2), (3, .int a3), (4, .int a4), (5, .int (b2i a5)), (7, .int x3)] → Rp G mr0 N0 m13 s H locs → k48_13  m13 = some (v, m') → W p l e (rmD 1) s mid args below meth c H locs 0 0 (MQ below (QR G mr0 N0 (some (.int v)) m') args s 0 0 (fun q => G.2.1 ≤ q)) (F0 mid 48 ls [.int x2]) := by
            intro  m13 H locs ls hl hR hF
            rw [ek48_13] at hF
            refine lv_iload hx hb (dk DX11_mornings 27 rfl) (lv_at hl 5 rfl) ?_
            obtain ⟨k66_14, ek66_14, hF⟩ := lt_ex hF
            have J66 : ∀ (m14 : Mem) (H : Heap) (locs : List Loc) (ls : Array Slot), lv_has ls 8 [(0, .ref (G.2.1 + 78)), (1, .int a1), (2, .int a2), (3, .int a3), (4, .int a4), (5, .int (b2i a5)), (7, .int x3)] → Rp G mr0 N0 m14 s H locs → k66_14  m14 = some (v, m') → W p l e (rmD 1) s mid args below meth c H locs 0 0 (MQ below (QR G mr0 N0 (some (.int v)) m') args s 0 0 (fun q => G.2.1 ≤ q)) (F0 mid 66 ls [.int x2]) := by
              intro  m14 H locs ls hl hR hF
              rw [ek66_14] at hF
              refine lv_iconst (v := (1 : Int32)) hx hb (dk DX11_mornings 37 rfl) (by decide) ?_
              refine lv_goto (tgt := 71) hx hb (dk DX11_mornings 38 rfl) (by decide) ?_
              exact J71 true m14 _ _ ls (lv_sub hl [0, 1, 2, 3, 4, 5, 6] rfl) hR hF
            refine z_ifeq (tgt := 66) hx hb (dk DX11_mornings 28 rfl) (by decide) (fun c50 => ?_) (fun c50 => ?_)
            · have hF := if_f c50 hF
              exact J66 m13 _ _ ls (lv_sub hl [0, 1, 2, 3, 4, 5, 6] rfl) hR hF
            · have hF := if_t c50 hF
              refine lv_aload_n hx hb (dk DX11_mornings 29 rfl) rfl (lv_at hl 0 rfl) ?_
              refine gX11_26 C hR ob78 rf78_7 (dk DX11_mornings 30 rfl) ?_
              refine lv_iload hx hb (dk DX11_mornings 31 rfl) (lv_at hl 6 rfl) ?_
              refine lv_iconst (v := (3 : Int32)) hx hb (dk DX11_mornings 32 rfl) (by decide) ?_
              refine lv_iadd hx hb (dk DX11_mornings 33 rfl) ?_
              obtain ⟨h15, hF⟩ := ckB_ex hF
              refine r_bald C hR ob83 h15 (dk DX11_mornings 34 rfl) ?_
              refine lv_topi (fun x16 ex16 => ?_)
              have hF := lt_at ex16 hF
              refine lv_iconst (v := (1 : Int32)) hx hb (dk DX11_mornings 35 rfl) (by decide) ?_
              refine lv_icmp_ne (tgt := 70) hx hb (dk DX11_mornings 36 rfl) (by decide) (fun c63 => ?_) (fun c63 => ?_)
              · have hF := if_f c63 hF
                exact J70 m13 _ _ ls (lv_sub hl [0, 1, 2, 3, 4, 5, 6] rfl) hR hF
              · have hF := if_t c63 hF
                exact J66 m13 _ _ ls (lv_sub hl [0, 1, 2, 3, 4, 5, 6] rfl) hR hF
          refine lv_if_lt (tgt := 48) hx hb (dk DX11_mornings 18 rfl) (by decide) (fun c31 => ?_) (fun c31 => ?_)
          · have hF := if_t c31 hF
            exact J48 m1 _ _ ls (lv_sub hl [0, 1, 2, 3, 4, 5, 7] rfl) hR hF
          · have hF := if_f c31 hF
            refine lv_aload_n hx hb (dk DX11_mornings 19 rfl) rfl (lv_at hl 0 rfl) ?_
            refine gX11_26 C hR ob78 rf78_7 (dk DX11_mornings 20 rfl) ?_
            refine lv_iload hx hb (dk DX11_mornings 21 rfl) (lv_at hl 7 rfl) ?_
            refine lv_iload_n hx hb (dk DX11_mornings 22 rfl) rfl (lv_at hl 3 rfl) ?_
            refine lv_iadd hx hb (dk DX11_mornings 23 rfl) ?_
            obtain ⟨h17, hF⟩ := ckB_ex hF
            refine r_bald C hR ob83 h17 (dk DX11_mornings 24 rfl) ?_
            refine lv_topi (fun x18 ex18 => ?_)
            have hF := lt_at ex18 hF
            refine lv_iload hx hb (dk DX11_mornings 25 rfl) (lv_at hl 4 rfl) ?_
            refine lv_icmp_ne (tgt := 70) hx hb (dk DX11_mornings 26 rfl) (by decide) (fun c45 => ?_) (fun c45 => ?_)
            · have hF := if_f c45 hF
              exact J70 m1 _ _ ls (lv_sub hl [0, 1, 2, 3, 4, 5, 7] rfl) hR hF
            · have hF := if_t c45 hF
              exact J48 m1 _ _ ls (lv_sub hl [0, 1, 2, 3, 4, 5, 7] rfl) hR hF
  exact L6 1000000 (0 : Int32) (0 : Int32) m0 _ _ ls (lv_sub hl [2, 3, 4, 5, 6, 7, 1, 0] rfl) hR hF
set_option maxHeartbeats 4000000 in
set_option maxRecDepth 100000 in
theorem C_M_rightBy (l : Launch) (hl0 : l.stackTraces = false) (G : GG) (a1 : Int32) (a2 : Int32) (m0 : Mem) (v : Int32) (m' : Mem) (hF : F_M_rightBy a1 a2 m0 = some (v, m')) : Ct l G mr0 N0 yX11_rightBy cX11_rightBy 7 (some .int) 2 [.ref (G.2.1 + 78), .int a1, .int a2] m0 (some (.int v)) m' := by
  refine Ct_of hl0 (by decide) (Nat.le_of_ble_eq_true rfl) ?_
  intro p e s mid args below meth c ls C hrt hl hR
  have hx := C.1.1
  have hb := C.1.2.1
  have hl : lv_has ls 7 [(0, .ref (G.2.1 + 78)), (1, .int a1), (2, .int a2)] := hl
  unfold F_M_rightBy at hF
  refine lv_iconst (v := (0 : Int32)) hx hb (dk DX11_rightBy 0 rfl) (by decide) ?_
  refine lv_istore_n (lv' := [(3, .int (0 : Int32)), (0, .ref (G.2.1 + 78)), (1, .int a1), (2, .int a2)]) hx hb (dk DX11_rightBy 1 rfl) rfl hl (by decide) rfl (fun ls hl => ?_)
  refine lv_iconst (v := (0 : Int32)) hx hb (dk DX11_rightBy 2 rfl) (by decide) ?_
  refine lv_istore (lv' := [(4, .int (0 : Int32)), (3, .int (0 : Int32)), (0, .ref (G.2.1 + 78)), (1, .int a1), (2, .int a2)]) hx hb (dk DX11_rightBy 3 rfl) hl (by decide) rfl (fun ls hl => ?_)
  have L5 : ∀ (nf : Nat) (x2 : Int32) (x3 : Int32) (m1 : Mem) (H : Heap) (locs : List Loc) (ls : Array Slot), lv_has ls 7 [(0, .ref (G.2.1 + 78)), (1, .int a1), (2, .int a2), (3, .int x2), (4, .int x3)] → Rp G mr0 N0 m1 s H locs → F_M_rightBy_L5 a1 a2 nf x2 x3 m1 = some (v, m') → W p l e (rmD 2) s mid args below meth c H locs 0 0 (MQ below (QR G mr0 N0 (some (.int v)) m') args s 0 0 (fun q => G.2.1 ≤ q)) (F0 mid 5 ls []) := by
    intro nf
    induction nf with
    | zero =>
      intro x2 x3 m1 H locs ls hl hR hF
      rw [F_M_rightBy_L5] at hF
      cases hF
    | succ nf ih5 =>
      intro x2 x3 m1 H locs ls hl hR hF
      rw [F_M_rightBy_L5] at hF
      refine lv_iload hx hb (dk DX11_rightBy 4 rfl) (lv_at hl 4 rfl) ?_
      refine lv_iconst (v := (4 : Int32)) hx hb (dk DX11_rightBy 5 rfl) (by decide) ?_
      refine lv_icmp_ge (tgt := 75) hx hb (dk DX11_rightBy 6 rfl) (by decide) (fun c8 => ?_) (fun c8 => ?_)
      · have hF := if_t c8 hF
        refine lv_iload_n hx hb (dk DX11_rightBy 42 rfl) rfl (lv_at hl 3 rfl) ?_
        cases hF
        exact r_iret (v := x2) C hrt hR (dk DX11_rightBy 43 rfl)
      · have hF := if_f c8 hF
        refine lv_iconst (v := (0 : Int32)) hx hb (dk DX11_rightBy 7 rfl) (by decide) ?_
        refine lv_istore (lv' := [(5, .int (0 : Int32)), (0, .ref (G.2.1 + 78)), (1, .int a1), (2, .int a2), (3, .int x2), (4, .int x3)]) hx hb (dk DX11_rightBy 8 rfl) hl (by decide) rfl (fun ls hl => ?_)
        obtain ⟨k69_7, ek69_7, hF⟩ := lt_ex hF
        have J69 : ∀ (x7 : Int32) (m6 : Mem) (H : Heap) (locs : List Loc) (ls : Array Slot), lv_has ls 7 [(0, .ref (G.2.1 + 78)), (1, .int a1), (2, .int a2), (3, .int x7), (4, .int x3)] → Rp G mr0 N0 m6 s H locs → k69_7 x7 m6 = some (v, m') → W p l e (rmD 2) s mid args below meth c H locs 0 0 (MQ below (QR G mr0 N0 (some (.int v)) m') args s 0 0 (fun q => G.2.1 ≤ q)) (F0 mid 69 ls []) := by
          intro x7 m6 H locs ls hl hR hF
          rw [ek69_7] at hF
          obtain ⟨x8, ex8, hF⟩ := lt_ex hF
          refine lv_iinc (v := x8) (lv' := [(4, .int x8), (0, .ref (G.2.1 + 78)), (1, .int a1), (2, .int a2), (3, .int x7)]) hx hb (dk DX11_rightBy 40 rfl) hl (k := 4) rfl (by rw [ex8]; rfl) (by decide) rfl (fun ls hl => ?_)
          refine lv_goto (tgt := 5) hx hb (dk DX11_rightBy 41 rfl) (by decide) ?_
          exact ih5 x7 x8 m6 _ _ ls (lv_sub hl [1, 2, 3, 4, 0] rfl) hR hF
        have L14 : ∀ (nf : Nat) (x10 : Int32) (x11 : Int32) (m9 : Mem) (H : Heap) (locs : List Loc) (ls : Array Slot), lv_has ls 7 [(0, .ref (G.2.1 + 78)), (1, .int a1), (2, .int a2), (3, .int x10), (4, .int x3), (5, .int x11)] → Rp G mr0 N0 m9 s H locs → F_M_rightBy_L14 a1 a2 x3 k69_7 nf x10 x11 m9 = some (v, m') → W p l e (rmD 2) s mid args below meth c H locs 0 0 (MQ below (QR G mr0 N0 (some (.int v)) m') args s 0 0 (fun q => G.2.1 ≤ q)) (F0 mid 14 ls []) := by
          intro nf
          induction nf with
          | zero =>
            intro x10 x11 m9 H locs ls hl hR hF
            rw [F_M_rightBy_L14] at hF
            cases hF
          | succ nf ih13 =>
            intro x10 x11 m9 H locs ls hl hR hF
            rw [F_M_rightBy_L14] at hF
            refine lv_iload hx hb (dk DX11_rightBy 9 rfl) (lv_at hl 5 rfl) ?_
            refine lv_iload_n hx hb (dk DX11_rightBy 10 rfl) rfl (lv_at hl 2 rfl) ?_
            obtain ⟨k25_15, ek25_15, hF⟩ := lt_ex hF
            have J25 : ∀ (x15 : Int32) (m14 : Mem) (H : Heap) (locs : List Loc) (ls : Array Slot), lv_has ls 7 [(0, .ref (G.2.1 + 78)), (1, .int a1), (2, .int a2), (3, .int x10), (4, .int x3), (5, .int x11)] → Rp G mr0 N0 m14 s H locs → k25_15 x15 m14 = some (v, m') → W p l e (rmD 2) s mid args below meth c H locs 0 0 (MQ below (QR G mr0 N0 (some (.int v)) m') args s 0 0 (fun q => G.2.1 ≤ q)) (F0 mid 25 ls [.int x15, .int x11]) := by
              intro x15 m14 H locs ls hl hR hF
              rw [ek25_15] at hF
              refine lv_icmp_ge (tgt := 69) hx hb (dk DX11_rightBy 15 rfl) (by decide) (fun c25 => ?_) (fun c25 => ?_)
              · have hF := if_t c25 hF
                exact J69 x10 m14 _ _ ls (lv_sub hl [0, 1, 2, 3, 4] rfl) hR hF
              · have hF := if_f c25 hF
                refine lv_aload_n hx hb (dk DX11_rightBy 16 rfl) rfl (lv_at hl 0 rfl) ?_
                refine lv_iload_n hx hb (dk DX11_rightBy 17 rfl) rfl (lv_at hl 1 rfl) ?_
                refine lv_iload hx hb (dk DX11_rightBy 18 rfl) (lv_at hl 4 rfl) ?_
                refine lv_iload_n hx hb (dk DX11_rightBy 19 rfl) rfl (lv_at hl 2 rfl) ?_
                refine lv_iload hx hb (dk DX11_rightBy 20 rfl) (lv_at hl 5 rfl) ?_
                refine lv_iconst (v := (1 : Int32)) hx hb (dk DX11_rightBy 21 rfl) (by decide) ?_
                obtain ⟨x18, m16, hz17, hF⟩ := bnd_ex hF
                refine r_callVi (As := [.int a1, .int x3, .int a2, .int x11, .int (b2i true)]) (rest := []) C hR (C_M_mornings l hl0 G a1 x3 a2 x11 true m14 _ _ hz17) (by decide) (by decide) ob78 rfl wX11_479 rfl rfl (Nat.le_of_ble_eq_true rfl) hl.1 ⟨Nat.zero_le _, Nat.zero_le _⟩ (dk DX11_rightBy 22 rfl) (fun H locs hR => ?_)
                refine lv_istore (lv' := [(6, .int x18), (0, .ref (G.2.1 + 78)), (1, .int a1), (2, .int a2), (3, .int x10), (4, .int x3), (5, .int x11)]) hx hb (dk DX11_rightBy 23 rfl) hl (by decide) rfl (fun ls hl => ?_)
                refine lv_iload_n hx hb (dk DX11_rightBy 24 rfl) rfl (lv_at hl 4 rfl) ?_
                refine lv_iload hx hb (dk DX11_rightBy 25 rfl) (lv_at hl 0 rfl) ?_
                refine lv_aload_n hx hb (dk DX11_rightBy 26 rfl) rfl (lv_at hl 1 rfl) ?_
                refine lv_iload_n hx hb (dk DX11_rightBy 27 rfl) rfl (lv_at hl 2 rfl) ?_
                refine lv_iload hx hb (dk DX11_rightBy 28 rfl) (lv_at hl 5 rfl) ?_
                refine lv_iload_n hx hb (dk DX11_rightBy 29 rfl) rfl (lv_at hl 3 rfl) ?_
                refine lv_iload hx hb (dk DX11_rightBy 30 rfl) (lv_at hl 6 rfl) ?_
                refine lv_iconst (v := (0 : Int32)) hx hb (dk DX11_rightBy 31 rfl) (by decide) ?_
                obtain ⟨x21, m19, hz20, hF⟩ := bnd_ex hF
                refine r_callVi (As := [.int a1, .int x3, .int a2, .int x11, .int (b2i false)]) (rest := [.int x18, .int x10]) C hR (C_M_mornings l hl0 G a1 x3 a2 x11 false m16 _ _ hz20) (by decide) (by decide) ob78 rfl wX11_479 rfl rfl (Nat.le_of_ble_eq_true rfl) hl.1 ⟨Nat.zero_le _, Nat.zero_le _⟩ (dk DX11_rightBy 32 rfl) (fun H locs hR => ?_)
                refine lv_iload hx hb (dk DX11_rightBy 33 rfl) (lv_at hl 0 rfl) ?_
                refine lv_isub hx hb (dk DX11_rightBy 34 rfl) ?_
                refine r_mxI C (gd q2005 rfl) (by decide) (Nat.le_of_ble_eq_true rfl) hl.1 ⟨Nat.zero_le _, Nat.zero_le _⟩ (dk DX11_rightBy 35 rfl) ?_
                refine lv_iadd hx hb (dk DX11_rightBy 36 rfl) ?_
                refine lv_topi (fun x22 ex22 => ?_)
                have hF := lt_at ex22 hF
                refine lv_istore_n (lv' := [(3, .int x22), (6, .int x18), (0, .ref (G.2.1 + 78)), (1, .int a1), (2, .int a2), (4, .int x3), (5, .int x11)]) hx hb (dk DX11_rightBy 37 rfl) rfl hl (by decide) rfl (fun ls hl => ?_)
                obtain ⟨x23, ex23, hF⟩ := lt_ex hF
                refine lv_iinc (v := x23) (lv' := [(5, .int x23), (3, .int x22), (6, .int x18), (0, .ref (G.2.1 + 78)), (1, .int a1), (2, .int a2), (4, .int x3)]) hx hb (dk DX11_rightBy 38 rfl) hl (k := 6) rfl (by rw [ex23]; rfl) (by decide) rfl (fun ls hl => ?_)
                refine lv_goto (tgt := 14) hx hb (dk DX11_rightBy 39 rfl) (by decide) ?_
                exact ih13 x22 x23 m19 _ _ ls (lv_sub hl [3, 4, 5, 1, 6, 0] rfl) hR hF
            refine lv_if_ge (tgt := 24) hx hb (dk DX11_rightBy 11 rfl) (by decide) (fun c17 => ?_) (fun c17 => ?_)
            · have hF := if_t c17 hF
              refine lv_iconst (v := (4 : Int32)) hx hb (dk DX11_rightBy 14 rfl) (by decide) ?_
              exact J25 (4 : Int32) m9 _ _ ls (lv_sub hl [0, 1, 2, 3, 4, 5] rfl) hR hF
            · have hF := if_f c17 hF
              refine lv_iconst (v := (1 : Int32)) hx hb (dk DX11_rightBy 12 rfl) (by decide) ?_
              refine lv_goto (tgt := 25) hx hb (dk DX11_rightBy 13 rfl) (by decide) ?_
              exact J25 (1 : Int32) m9 _ _ ls (lv_sub hl [0, 1, 2, 3, 4, 5] rfl) hR hF
        exact L14 1000000 x2 (0 : Int32) m1 _ _ ls (lv_sub hl [1, 2, 3, 4, 5, 0] rfl) hR hF
  exact L5 1000000 (0 : Int32) (0 : Int32) m0 _ _ ls (lv_sub hl [2, 3, 4, 1, 0] rfl) hR hF
set_option maxHeartbeats 4000000 in
set_option maxRecDepth 100000 in
theorem C_M_best (l : Launch) (hl0 : l.stackTraces = false) (G : GG) (a1 : Bool) (a2 : Bool) (m0 : Mem) (v : Int32) (m' : Mem) (hF : F_M_best a1 a2 m0 = some (v, m')) : Ct l G mr0 N0 yX11_best cX11_best 8 (some .int) 3 [.ref (G.2.1 + 78), .int (b2i a1), .int (b2i a2)] m0 (some (.int v)) m' := by
  refine Ct_of hl0 (by decide) (Nat.le_of_ble_eq_true rfl) ?_
  intro p e s mid args below meth c ls C hrt hl hR
  have hx := C.1.1
  have hb := C.1.2.1
  have hl : lv_has ls 8 [(0, .ref (G.2.1 + 78)), (1, .int (b2i a1)), (2, .int (b2i a2))] := hl
  unfold F_M_best at hF
  refine lv_aload_n hx hb (dk DX11_best 0 rfl) rfl (lv_at hl 0 rfl) ?_
  obtain ⟨z3, m1, hz2, hF⟩ := bnd_ex hF
  refine r_callVi (As := []) (rest := []) C hR (C_M_readSigns l hl0 G m0 _ _ hz2) (by decide) (by decide) ob78 rfl wX11_476 rfl rfl (Nat.le_of_ble_eq_true rfl) hl.1 ⟨Nat.zero_le _, Nat.zero_le _⟩ (dk DX11_best 1 rfl) (fun H locs hR => ?_)
  refine lv_istore_n (lv' := [(3, .int (b2i z3)), (0, .ref (G.2.1 + 78)), (1, .int (b2i a1)), (2, .int (b2i a2))]) hx hb (dk DX11_best 2 rfl) rfl hl (by decide) rfl (fun ls hl => ?_)
  refine lv_aload_n hx hb (dk DX11_best 3 rfl) rfl (lv_at hl 1 rfl) ?_
  refine lv_iload_n hx hb (dk DX11_best 4 rfl) rfl (lv_at hl 0 rfl) ?_
  obtain ⟨k15_5, ek15_5, hF⟩ := lt_ex hF
  have J15 : ∀ (z5 : Bool) (m4 : Mem) (H : Heap) (locs : List Loc) (ls : Array Slot), lv_has ls 8 [(0, .ref (G.2.1 + 78)), (1, .int (b2i a1)), (2, .int (b2i a2))] → Rp G mr0 N0 m4 s H locs → k15_5 z5 m4 = some (v, m') → W p l e (rmD 3) s mid args below meth c H locs 0 0 (MQ below (QR G mr0 N0 (some (.int v)) m') args s 0 0 (fun q => G.2.1 ≤ q)) (F0 mid 15 ls [.int (b2i z5), .ref (G.2.1 + 78)]) := by
    intro z5 m4 H locs ls hl hR hF
    rw [ek15_5] at hF
    refine lv_iconst (v := (1 : Int32)) hx hb (dk DX11_best 9 rfl) (by decide) ?_
    obtain ⟨z8, m6, hz7, hF⟩ := bnd_ex hF
    refine r_callVi (As := [.int (b2i z5), .int (1 : Int32)]) (rest := []) C hR (C_M_throwsIf l hl0 G z5 (1 : Int32) m4 _ _ hz7) (by decide) (by decide) ob78 rfl wX11_227 rfl rfl (Nat.le_of_ble_eq_true rfl) hl.1 ⟨Nat.zero_le _, Nat.zero_le _⟩ (dk DX11_best 10 rfl) (fun H locs hR => ?_)
    refine z_ifeq (tgt := 24) hx hb (dk DX11_best 11 rfl) (by decide) (fun c19 => ?_) (fun c19 => ?_)
    · have hF := if_f c19 hF
      refine lv_iconst (v := (-1 : Int32)) hx hb (dk DX11_best 14 rfl) (by decide) ?_
      refine lv_istore (lv' := [(4, .int (-1 : Int32)), (0, .ref (G.2.1 + 78)), (1, .int (b2i a1)), (2, .int (b2i a2))]) hx hb (dk DX11_best 15 rfl) hl (by decide) rfl (fun ls hl => ?_)
      refine lv_iconst (v := (0 : Int32)) hx hb (dk DX11_best 16 rfl) (by decide) ?_
      refine lv_istore (lv' := [(5, .int (0 : Int32)), (4, .int (-1 : Int32)), (0, .ref (G.2.1 + 78)), (1, .int (b2i a1)), (2, .int (b2i a2))]) hx hb (dk DX11_best 17 rfl) hl (by decide) rfl (fun ls hl => ?_)
      refine lv_iconst (v := (0 : Int32)) hx hb (dk DX11_best 18 rfl) (by decide) ?_
      refine lv_istore (lv' := [(6, .int (0 : Int32)), (5, .int (0 : Int32)), (4, .int (-1 : Int32)), (0, .ref (G.2.1 + 78)), (1, .int (b2i a1)), (2, .int (b2i a2))]) hx hb (dk DX11_best 19 rfl) hl (by decide) rfl (fun ls hl => ?_)
      obtain ⟨k109_11, ek109_11, hF⟩ := lt_ex hF
      have J109 : ∀ (x10 : Int32) (x11 : Int32) (m9 : Mem) (H : Heap) (locs : List Loc) (ls : Array Slot), lv_has ls 8 [(2, .int (b2i a2)), (4, .int x10), (5, .int x11)] → Rp G mr0 N0 m9 s H locs → k109_11 x10 x11 m9 = some (v, m') → W p l e (rmD 3) s mid args below meth c H locs 0 0 (MQ below (QR G mr0 N0 (some (.int v)) m') args s 0 0 (fun q => G.2.1 ≤ q)) (F0 mid 109 ls []) := by
        intro x10 x11 m9 H locs ls hl hR hF
        rw [ek109_11] at hF
        refine lv_iload_n hx hb (dk DX11_best 56 rfl) rfl (lv_at hl 0 rfl) ?_
        refine z_ifeq (tgt := 118) hx hb (dk DX11_best 57 rfl) (by decide) (fun c110 => ?_) (fun c110 => ?_)
        · have hF := if_f c110 hF
          refine lv_iload hx hb (dk DX11_best 60 rfl) (lv_at hl 1 rfl) ?_
          cases hF
          exact r_iret (v := x10) C hrt hR (dk DX11_best 61 rfl)
        · have hF := if_t c110 hF
          refine lv_iload hx hb (dk DX11_best 58 rfl) (lv_at hl 2 rfl) ?_
          refine lv_goto (tgt := 120) hx hb (dk DX11_best 59 rfl) (by decide) ?_
          cases hF
          exact r_iret (v := x11) C hrt hR (dk DX11_best 61 rfl)
      have L33 : ∀ (nf : Nat) (x13 : Int32) (x14 : Int32) (x15 : Int32) (m12 : Mem) (H : Heap) (locs : List Loc) (ls : Array Slot), lv_has ls 8 [(0, .ref (G.2.1 + 78)), (1, .int (b2i a1)), (2, .int (b2i a2)), (4, .int x13), (5, .int x14), (6, .int x15)] → Rp G mr0 N0 m12 s H locs → F_M_best_L33 a1 k109_11 nf x13 x14 x15 m12 = some (v, m') → W p l e (rmD 3) s mid args below meth c H locs 0 0 (MQ below (QR G mr0 N0 (some (.int v)) m') args s 0 0 (fun q => G.2.1 ≤ q)) (F0 mid 33 ls []) := by
        intro nf
        induction nf with
        | zero =>
          intro x13 x14 x15 m12 H locs ls hl hR hF
          rw [F_M_best_L33] at hF
          cases hF
        | succ nf ih17 =>
          intro x13 x14 x15 m12 H locs ls hl hR hF
          rw [F_M_best_L33] at hF
          refine lv_iload hx hb (dk DX11_best 20 rfl) (lv_at hl 5 rfl) ?_
          refine lv_iconst (v := (3 : Int32)) hx hb (dk DX11_best 21 rfl) (by decide) ?_
          refine lv_icmp_ge (tgt := 109) hx hb (dk DX11_best 22 rfl) (by decide) (fun c36 => ?_) (fun c36 => ?_)
          · have hF := if_t c36 hF
            exact J109 x13 x14 m12 _ _ ls (lv_sub hl [2, 3, 4] rfl) hR hF
          · have hF := if_f c36 hF
            refine lv_iload_n hx hb (dk DX11_best 23 rfl) rfl (lv_at hl 1 rfl) ?_
            obtain ⟨k78_19, ek78_19, hF⟩ := lt_ex hF
            have J78 : ∀ (x19 : Int32) (m18 : Mem) (H : Heap) (locs : List Loc) (ls : Array Slot), lv_has ls 8 [(0, .ref (G.2.1 + 78)), (1, .int (b2i a1)), (2, .int (b2i a2)), (4, .int x13), (5, .int x14), (6, .int x15)] → Rp G mr0 N0 m18 s H locs → k78_19 x19 m18 = some (v, m') → W p l e (rmD 3) s mid args below meth c H locs 0 0 (MQ below (QR G mr0 N0 (some (.int v)) m') args s 0 0 (fun q => G.2.1 ≤ q)) (F0 mid 78 ls [.int x19]) := by
              intro x19 m18 H locs ls hl hR hF
              rw [ek78_19] at hF
              refine lv_istore (lv' := [(7, .int x19), (0, .ref (G.2.1 + 78)), (1, .int (b2i a1)), (2, .int (b2i a2)), (4, .int x13), (5, .int x14), (6, .int x15)]) hx hb (dk DX11_best 43 rfl) hl (by decide) rfl (fun ls hl => ?_)
              refine lv_iload hx hb (dk DX11_best 44 rfl) (lv_at hl 4 rfl) ?_
              obtain ⟨k103_22, ek103_22, hF⟩ := lt_ex hF
              have J103 : ∀ (x21 : Int32) (x22 : Int32) (m20 : Mem) (H : Heap) (locs : List Loc) (ls : Array Slot), lv_has ls 8 [(0, .ref (G.2.1 + 78)), (1, .int (b2i a1)), (2, .int (b2i a2)), (4, .int x21), (5, .int x22), (6, .int x15)] → Rp G mr0 N0 m20 s H locs → k103_22 x21 x22 m20 = some (v, m') → W p l e (rmD 3) s mid args below meth c H locs 0 0 (MQ below (QR G mr0 N0 (some (.int v)) m') args s 0 0 (fun q => G.2.1 ≤ q)) (F0 mid 103 ls []) := by
                intro x21 x22 m20 H locs ls hl hR hF
                rw [ek103_22] at hF
                obtain ⟨x23, ex23, hF⟩ := lt_ex hF
                refine lv_iinc (v := x23) (lv' := [(6, .int x23), (0, .ref (G.2.1 + 78)), (1, .int (b2i a1)), (2, .int (b2i a2)), (4, .int x21), (5, .int x22)]) hx hb (dk DX11_best 54 rfl) hl (k := 5) rfl (by rw [ex23]; rfl) (by decide) rfl (fun ls hl => ?_)
                refine lv_goto (tgt := 33) hx hb (dk DX11_best 55 rfl) (by decide) ?_
                exact ih17 x21 x22 x23 m20 _ _ ls (lv_sub hl [1, 2, 3, 4, 5, 0] rfl) hR hF
              obtain ⟨k95_24, ek95_24, hF⟩ := lt_ex hF
              have J95 : ∀ (m24 : Mem) (H : Heap) (locs : List Loc) (ls : Array Slot), lv_has ls 8 [(0, .ref (G.2.1 + 78)), (1, .int (b2i a1)), (2, .int (b2i a2)), (6, .int x15), (7, .int x19)] → Rp G mr0 N0 m24 s H locs → k95_24  m24 = some (v, m') → W p l e (rmD 3) s mid args below meth c H locs 0 0 (MQ below (QR G mr0 N0 (some (.int v)) m') args s 0 0 (fun q => G.2.1 ≤ q)) (F0 mid 95 ls []) := by
                intro  m24 H locs ls hl hR hF
                rw [ek95_24] at hF
                refine lv_iload hx hb (dk DX11_best 50 rfl) (lv_at hl 3 rfl) ?_
                refine lv_istore (lv' := [(4, .int x15), (0, .ref (G.2.1 + 78)), (1, .int (b2i a1)), (2, .int (b2i a2)), (6, .int x15), (7, .int x19)]) hx hb (dk DX11_best 51 rfl) hl (by decide) rfl (fun ls hl => ?_)
                refine lv_iload hx hb (dk DX11_best 52 rfl) (lv_at hl 5 rfl) ?_
                refine lv_istore (lv' := [(5, .int x19), (4, .int x15), (0, .ref (G.2.1 + 78)), (1, .int (b2i a1)), (2, .int (b2i a2)), (6, .int x15), (7, .int x19)]) hx hb (dk DX11_best 53 rfl) hl (by decide) rfl (fun ls hl => ?_)
                exact J103 x15 x19 m24 _ _ ls (lv_sub hl [2, 3, 4, 1, 0, 5] rfl) hR hF
              refine lv_if_lt (tgt := 95) hx hb (dk DX11_best 45 rfl) (by decide) (fun c82 => ?_) (fun c82 => ?_)
              · have hF := if_t c82 hF
                exact J95 m18 _ _ ls (lv_sub hl [1, 2, 3, 6, 0] rfl) hR hF
              · have hF := if_f c82 hF
                refine lv_iload hx hb (dk DX11_best 46 rfl) (lv_at hl 0 rfl) ?_
                refine lv_iload hx hb (dk DX11_best 47 rfl) (lv_at hl 5 rfl) ?_
                refine lv_icmp_gt (tgt := 95) hx hb (dk DX11_best 48 rfl) (by decide) (fun c89 => ?_) (fun c89 => ?_)
                · have hF := if_t c89 hF
                  exact J95 m18 _ _ ls (lv_sub hl [1, 2, 3, 6, 0] rfl) hR hF
                · have hF := if_f c89 hF
                  refine lv_goto (tgt := 103) hx hb (dk DX11_best 49 rfl) (by decide) ?_
                  exact J103 x13 x14 m18 _ _ ls (lv_sub hl [1, 2, 3, 4, 5, 6] rfl) hR hF
            refine z_ifne (tgt := 53) hx hb (dk DX11_best 24 rfl) (by decide) (fun c40 => ?_) (fun c40 => ?_)
            · have hF := if_t c40 hF
              refine lv_aload_n hx hb (dk DX11_best 30 rfl) rfl (lv_at hl 0 rfl) ?_
              refine lv_iload hx hb (dk DX11_best 31 rfl) (lv_at hl 5 rfl) ?_
              refine lv_iconst (v := (2 : Int32)) hx hb (dk DX11_best 32 rfl) (by decide) ?_
              obtain ⟨k65_26, ek65_26, hF⟩ := lt_ex hF
              have J65 : ∀ (z26 : Bool) (m25 : Mem) (H : Heap) (locs : List Loc) (ls : Array Slot), lv_has ls 8 [(0, .ref (G.2.1 + 78)), (1, .int (b2i a1)), (2, .int (b2i a2)), (4, .int x13), (5, .int x14), (6, .int x15)] → Rp G mr0 N0 m25 s H locs → k65_26 z26 m25 = some (v, m') → W p l e (rmD 3) s mid args below meth c H locs 0 0 (MQ below (QR G mr0 N0 (some (.int v)) m') args s 0 0 (fun q => G.2.1 ≤ q)) (F0 mid 65 ls [.int (b2i z26), .ref (G.2.1 + 78)]) := by
                intro z26 m25 H locs ls hl hR hF
                rw [ek65_26] at hF
                refine lv_iload hx hb (dk DX11_best 37 rfl) (lv_at hl 5 rfl) ?_
                obtain ⟨k75_28, ek75_28, hF⟩ := lt_ex hF
                have J75 : ∀ (x28 : Int32) (m27 : Mem) (H : Heap) (locs : List Loc) (ls : Array Slot), lv_has ls 8 [(0, .ref (G.2.1 + 78)), (1, .int (b2i a1)), (2, .int (b2i a2)), (4, .int x13), (5, .int x14), (6, .int x15)] → Rp G mr0 N0 m27 s H locs → k75_28 x28 m27 = some (v, m') → W p l e (rmD 3) s mid args below meth c H locs 0 0 (MQ below (QR G mr0 N0 (some (.int v)) m') args s 0 0 (fun q => G.2.1 ≤ q)) (F0 mid 75 ls [.int x28, .int (b2i z26), .ref (G.2.1 + 78)]) := by
                  intro x28 m27 H locs ls hl hR hF
                  rw [ek75_28] at hF
                  obtain ⟨x31, m29, hz30, hF⟩ := bnd_ex hF
                  refine r_callVi (As := [.int (b2i z26), .int x28]) (rest := []) C hR (C_M_rightBy l hl0 G (b2i z26) x28 m27 _ _ hz30) (by decide) (by decide) ob78 rfl wX11_483 rfl rfl (Nat.le_of_ble_eq_true rfl) hl.1 ⟨Nat.zero_le _, Nat.zero_le _⟩ (dk DX11_best 42 rfl) (fun H locs hR => ?_)
                  exact J78 x31 m29 _ _ ls (lv_sub hl [0, 1, 2, 3, 4, 5] rfl) hR hF
                refine lv_if_ne (tgt := 74) hx hb (dk DX11_best 38 rfl) (by decide) (fun c67 => ?_) (fun c67 => ?_)
                · have hF := if_f c67 hF
                  refine lv_iconst (v := (2 : Int32)) hx hb (dk DX11_best 41 rfl) (by decide) ?_
                  exact J75 (2 : Int32) m25 _ _ ls (lv_sub hl [0, 1, 2, 3, 4, 5] rfl) hR hF
                · have hF := if_t c67 hF
                  refine lv_iconst (v := (1 : Int32)) hx hb (dk DX11_best 39 rfl) (by decide) ?_
                  refine lv_goto (tgt := 75) hx hb (dk DX11_best 40 rfl) (by decide) ?_
                  exact J75 (1 : Int32) m25 _ _ ls (lv_sub hl [0, 1, 2, 3, 4, 5] rfl) hR hF
              refine lv_icmp_ne (tgt := 64) hx hb (dk DX11_best 33 rfl) (by decide) (fun c57 => ?_) (fun c57 => ?_)
              · have hF := if_f c57 hF
                refine lv_iconst (v := (0 : Int32)) hx hb (dk DX11_best 36 rfl) (by decide) ?_
                exact J65 false m12 _ _ ls (lv_sub hl [0, 1, 2, 3, 4, 5] rfl) hR hF
              · have hF := if_t c57 hF
                refine lv_iconst (v := (1 : Int32)) hx hb (dk DX11_best 34 rfl) (by decide) ?_
                refine lv_goto (tgt := 65) hx hb (dk DX11_best 35 rfl) (by decide) ?_
                exact J65 true m12 _ _ ls (lv_sub hl [0, 1, 2, 3, 4, 5] rfl) hR hF
            · have hF := if_f c40 hF
              refine lv_aload_n hx hb (dk DX11_best 25 rfl) rfl (lv_at hl 0 rfl) ?_
              refine lv_iload hx hb (dk DX11_best 26 rfl) (lv_at hl 5 rfl) ?_
              refine lv_iconst (v := (-1 : Int32)) hx hb (dk DX11_best 27 rfl) (by decide) ?_
              obtain ⟨x34, m32, hz33, hF⟩ := bnd_ex hF
              refine r_callVi (As := [.int x15, .int (-1 : Int32)]) (rest := []) C hR (C_M_rightBy l hl0 G x15 (-1 : Int32) m12 _ _ hz33) (by decide) (by decide) ob78 rfl wX11_483 rfl rfl (Nat.le_of_ble_eq_true rfl) hl.1 ⟨Nat.zero_le _, Nat.zero_le _⟩ (dk DX11_best 28 rfl) (fun H locs hR => ?_)
              refine lv_goto (tgt := 78) hx hb (dk DX11_best 29 rfl) (by decide) ?_
              exact J78 x34 m32 _ _ ls (lv_sub hl [0, 1, 2, 3, 4, 5] rfl) hR hF
      exact L33 1000000 (-1 : Int32) (0 : Int32) (0 : Int32) m6 _ _ ls (lv_sub hl [3, 4, 5, 2, 1, 0] rfl) hR hF
    · have hF := if_t c19 hF
      refine lv_iconst (v := (0 : Int32)) hx hb (dk DX11_best 12 rfl) (by decide) ?_
      cases hF
      exact r_iret (v := (0 : Int32)) C hrt hR (dk DX11_best 13 rfl)
  refine z_ifne (tgt := 14) hx hb (dk DX11_best 5 rfl) (by decide) (fun c7 => ?_) (fun c7 => ?_)
  · have hF := if_t c7 hF
    refine lv_iconst (v := (0 : Int32)) hx hb (dk DX11_best 8 rfl) (by decide) ?_
    exact J15 false m1 _ _ ls (lv_sub hl [1, 2, 3] rfl) hR hF
  · have hF := if_f c7 hF
    refine lv_iconst (v := (1 : Int32)) hx hb (dk DX11_best 6 rfl) (by decide) ?_
    refine lv_goto (tgt := 15) hx hb (dk DX11_best 7 rfl) (by decide) ?_
    exact J15 true m1 _ _ ls (lv_sub hl [1, 2, 3] rfl) hR hF
