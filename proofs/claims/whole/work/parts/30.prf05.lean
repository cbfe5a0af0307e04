set_option maxHeartbeats 4000000 in
set_option maxRecDepth 100000 in
theorem C_T_holds (l : Launch) (hl0 : l.stackTraces = false) (G : GG) (a1 : Int32) (a2 : Bool) (a3 : Int32) (a4 : Int32) (m0 : Mem) (v : Nat ⊕ Bool) (m' : Mem) (hF : F_T_holds a1 a2 a3 a4 m0 = some (v, m')) : CtX l G mr0 N0 yX10_holds cX10_holds 5 (some .boolean) 293 [.ref (G.2.1 + 0), .int a1, .int (b2i a2), .int a3, .int a4] m0 (ouZ v) m' := by
  refine CtX_of hl0 (by decide) (Nat.le_of_ble_eq_true rfl) ?_
  intro p e s mid args below meth c ls C hrt hex hl hR
  have hx := C.1.1
  have hb := C.1.2.1
  have hl : lv_has ls 5 [(0, .ref (G.2.1 + 0)), (1, .int a1), (2, .int (b2i a2)), (3, .int a3), (4, .int a4)] := hl
  unfold F_T_holds at hF
  refine lv_aload_n hx hb (dk DX10_holds 0 rfl) rfl (lv_at hl 0 rfl) ?_
  refine lv_iload_n hx hb (dk DX10_holds 1 rfl) rfl (lv_at hl 1 rfl) ?_
  refine lv_iconst (v := (3 : Int32)) hx hb (dk DX10_holds 2 rfl) (by decide) ?_
  refine lv_iload_n hx hb (dk DX10_holds 3 rfl) rfl (lv_at hl 3 rfl) ?_
  refine lv_iload hx hb (dk DX10_holds 4 rfl) (lv_at hl 4 rfl) ?_
  rcases bndX_ex hF with ⟨ke, mq1, hzq2, hF⟩ | ⟨uq3, mq1, hzq2, hF⟩
  · have hM := C_T_mustBeState l hl0 G a1 (3 : Int32) a3 a4 m0 (Sum.inl ke) mq1 hzq2
    rw [show ouV (Sum.inl ke) = (Sum.inl ke : Ou) from rfl] at hM
    cases hF
    exact x_passV (d := 293) (k := ke) (As := [.int a1, .int (3 : Int32), .int a3, .int a4]) (rest := []) C hex hR hM (by decide) (by decide) ob0 rfl wX10_361 rfl rfl (Nat.le_of_ble_eq_true rfl) hl.1 (dk DX10_holds 5 rfl)
  · have hM := C_T_mustBeState l hl0 G a1 (3 : Int32) a3 a4 m0 (Sum.inr uq3) mq1 hzq2
    rw [show ouV (Sum.inr uq3) = (Sum.inr none : Ou) from rfl] at hM
    refine x_callVv (As := [.int a1, .int (3 : Int32), .int a3, .int a4]) (rest := []) C hR hM (by decide) (by decide) ob0 rfl wX10_361 rfl rfl (Nat.le_of_ble_eq_true rfl) hl.1 ⟨Nat.zero_le _, Nat.zero_le _⟩ (dk DX10_holds 5 rfl) (fun H locs hR => ?_)
    refine lv_aload_n hx hb (dk DX10_holds 6 rfl) rfl (lv_at hl 0 rfl) ?_
    refine gX10_23 C hR ob0 rf0_3 (dk DX10_holds 7 rfl) ?_
    refine lv_iconst (v := (0 : Int32)) hx hb (dk DX10_holds 8 rfl) (by decide) ?_
    refine lv_aload_n hx hb (dk DX10_holds 9 rfl) rfl (lv_at hl 0 rfl) ?_
    refine gX10_31 C hR ob0 rf0_4 (dk DX10_holds 10 rfl) ?_
    refine gX10_200 C hR ob3 (dk DX10_holds 11 rfl) ?_
    refine lv_iconst (v := (0 : Int32)) hx hb (dk DX10_holds 12 rfl) (by decide) ?_
    obtain ⟨uq6, mq4, hzq5, hF⟩ := bnd_ex hF
    refine r_callVv (As := [.int (0 : Int32), .int (gI mq1 3 5), .int (b2i false)]) (rest := []) C hR (C_Od_ready l hl0 G (0 : Int32) (gI mq1 3 5) false mq1 _ _ hzq5) (by decide) (by decide) ob2 rfl wX10_327 rfl rfl (Nat.le_of_ble_eq_true rfl) hl.1 ⟨Nat.zero_le _, Nat.zero_le _⟩ (dk DX10_holds 13 rfl) (fun H locs hR => ?_)
    refine lv_aload_n hx hb (dk DX10_holds 14 rfl) rfl (lv_at hl 0 rfl) ?_
    refine gX10_23 C hR ob0 rf0_3 (dk DX10_holds 15 rfl) ?_
    refine lv_iload_n hx hb (dk DX10_holds 16 rfl) rfl (lv_at hl 1 rfl) ?_
    refine lv_iconst (v := (3 : Int32)) hx hb (dk DX10_holds 17 rfl) (by decide) ?_
    refine lv_iload_n hx hb (dk DX10_holds 18 rfl) rfl (lv_at hl 2 rfl) ?_
    obtain ⟨xq9, mq7, hzq8, hF⟩ := bnd_ex hF
    refine r_callSi (As := [.int (3 : Int32), .int (b2i a2)]) (rest := [.int a1, .ref (G.2.1 + 2)]) C hR (C_Od_kindOf l hl0 G (3 : Int32) a2 mq4 _ _ hzq8) (by decide) (by decide) wX10_365 rfl rfl (Nat.le_of_ble_eq_true rfl) hl.1 ⟨Nat.zero_le _, Nat.zero_le _⟩ (dk DX10_holds 19 rfl) (fun H locs hR => ?_)
    refine lv_iload_n hx hb (dk DX10_holds 20 rfl) rfl (lv_at hl 3 rfl) ?_
    refine lv_iload hx hb (dk DX10_holds 21 rfl) (lv_at hl 4 rfl) ?_
    obtain ⟨zq12, mq10, hzq11, hF⟩ := bnd_ex hF
    refine r_callVi (As := [.int a1, .int xq9, .int a3, .int a4]) (rest := []) C hR (C_Od_choosesTold l hl0 G a1 xq9 a3 a4 mq7 _ _ hzq11) (by decide) (by decide) ob2 rfl wX10_373 rfl rfl (Nat.le_of_ble_eq_true rfl) hl.1 ⟨Nat.zero_le _, Nat.zero_le _⟩ (dk DX10_holds 22 rfl) (fun H locs hR => ?_)
    cases hF
    exact x_zret C hrt hR (dk DX10_holds 23 rfl)
set_option maxHeartbeats 4000000 in
set_option maxRecDepth 100000 in
theorem C_Lw_copyFrom_2 (l : Launch) (hl0 : l.stackTraces = false) (G : GG) (m0 : Mem) (v : Unit) (m' : Mem) (hF : F_Lw_copyFrom_2 m0 = some (v, m')) : Ct l G mr0 N0 yX3_copyFrom cX3_copyFrom 3 none 1 [.ref (G.2.1 + 69), .ref (G.2.1 + 8)] m0 none m' := by
  refine Ct_of hl0 (by decide) (Nat.le_of_ble_eq_true rfl) ?_
  intro p e s mid args below meth c ls C hrt hl hR
  have hx := C.1.1
  have hb := C.1.2.1
  have hl : lv_has ls 3 [(0, .ref (G.2.1 + 69)), (1, .ref (G.2.1 + 8))] := hl
  unfold F_Lw_copyFrom_2 at hF
  refine lv_aload_n hx hb (dk DX3_copyFrom 0 rfl) rfl (lv_at hl 0 rfl) ?_
  refine lv_aload_n hx hb (dk DX3_copyFrom 1 rfl) rfl (lv_at hl 1 rfl) ?_
  refine gX3_9 C hR ob8 (dk DX3_copyFrom 2 rfl) ?_
  refine pX3_9 (x := gI m0 8 0) C hR ob69 (dk DX3_copyFrom 3 rfl) (fun H locs hR => ?_)
  obtain ⟨mq1, emq1, hF⟩ := lt_ex hF
  have hR := Rp_at emq1 hR
  refine lv_aload_n hx hb (dk DX3_copyFrom 4 rfl) rfl (lv_at hl 0 rfl) ?_
  refine lv_aload_n hx hb (dk DX3_copyFrom 5 rfl) rfl (lv_at hl 1 rfl) ?_
  refine gX3_15 C hR ob8 (dk DX3_copyFrom 6 rfl) ?_
  refine pX3_15 (x := gI mq1 8 1) C hR ob69 (dk DX3_copyFrom 7 rfl) (fun H locs hR => ?_)
  obtain ⟨mq2, emq2, hF⟩ := lt_ex hF
  have hR := Rp_at emq2 hR
  refine lv_iconst (v := (0 : Int32)) hx hb (dk DX3_copyFrom 8 rfl) (by decide) ?_
  refine lv_istore_n (lv' := [(2, .int (0 : Int32)), (0, .ref (G.2.1 + 69)), (1, .ref (G.2.1 + 8))]) hx hb (dk DX3_copyFrom 9 rfl) rfl hl (by decide) rfl (fun ls hl => ?_)
  have L18 : ∀ (nf : Nat) (xq4 : Int32) (mq3 : Mem) (H : Heap) (locs : List Loc) (ls : Array Slot), lv_has ls 3 [(0, .ref (G.2.1 + 69)), (1, .ref (G.2.1 + 8)), (2, .int xq4)] → Rp G mr0 N0 mq3 s H locs → F_Lw_copyFrom_2_L18 nf xq4 mq3 = some (v, m') → W p l e (rmD 1) s mid args below meth c H locs 0 0 (MQ below (QR G mr0 N0 none m') args s 0 0 (fun q => G.2.1 ≤ q)) (F0 mid 18 ls []) := by
    intro nf
    induction nf with
    | zero =>
      intro xq4 mq3 H locs ls hl hR hF
      rw [F_Lw_copyFrom_2_L18] at hF
      cases hF
    | succ nf ihq6 =>
      intro xq4 mq3 H locs ls hl hR hF
      rw [F_Lw_copyFrom_2_L18] at hF
      refine lv_iload_n hx hb (dk DX3_copyFrom 10 rfl) rfl (lv_at hl 2 rfl) ?_
      refine lv_sipush (v := (400 : Int32)) hx hb (dk DX3_copyFrom 11 rfl) (by decide) ?_
      refine lv_icmp_ge (tgt := 43) hx hb (dk DX3_copyFrom 12 rfl) (by decide) (fun c22 => ?_) (fun c22 => ?_)
      · have hF := if_t c22 hF
        cases hF
        exact r_vret C hrt hR (dk DX3_copyFrom 23 rfl)
      · have hF := if_f c22 hF
        refine lv_aload_n hx hb (dk DX3_copyFrom 13 rfl) rfl (lv_at hl 0 rfl) ?_
        refine gX3_18 C hR ob69 rf69_2 (dk DX3_copyFrom 14 rfl) ?_
        refine lv_iload_n hx hb (dk DX3_copyFrom 15 rfl) rfl (lv_at hl 2 rfl) ?_
        refine lv_aload_n hx hb (dk DX3_copyFrom 16 rfl) rfl (lv_at hl 1 rfl) ?_
        refine gX3_18 C hR ob8 rf8_2 (dk DX3_copyFrom 17 rfl) ?_
        refine lv_iload_n hx hb (dk DX3_copyFrom 18 rfl) rfl (lv_at hl 2 rfl) ?_
        obtain ⟨hq7, hF⟩ := ckB_ex hF
        refine r_iald C hR ob9 hq7 (dk DX3_copyFrom 19 rfl) ?_
        refine lv_topi (fun xq8 exq8 => ?_)
        have hF := lt_at exq8 hF
        obtain ⟨hq10, hF⟩ := ckB_ex hF
        refine r_iast C hR ob70 hq10 (dk DX3_copyFrom 20 rfl) (fun H locs hR => ?_)
        obtain ⟨mq9, emq9, hF⟩ := lt_ex hF
        have hR := Rp_at emq9 hR
        obtain ⟨xq11, exq11, hF⟩ := lt_ex hF
        refine lv_iinc (v := xq11) (lv' := [(2, .int xq11), (0, .ref (G.2.1 + 69)), (1, .ref (G.2.1 + 8))]) hx hb (dk DX3_copyFrom 21 rfl) hl (k := 2) rfl (by rw [exq11]; rfl) (by decide) rfl (fun ls hl => ?_)
        refine lv_goto (tgt := 18) hx hb (dk DX3_copyFrom 22 rfl) (by decide) ?_
        exact ihq6 xq11 mq9 _ _ ls (lv_sub hl [1, 2, 0] rfl) hR hF
  exact L18 1000000 (0 : Int32) mq2 _ _ ls (lv_sub hl [1, 2, 0] rfl) hR hF
set_option maxHeartbeats 4000000 in
set_option maxRecDepth 100000 in
theorem C_Bk_copyFrom_2 (l : Launch) (hl0 : l.stackTraces = false) (G : GG) (m0 : Mem) (v : Unit) (m' : Mem) (hF : F_Bk_copyFrom_2 m0 = some (v, m')) : Ct l G mr0 N0 yX0_copyFrom cX0_copyFrom 3 none 1 [.ref (G.2.1 + 73), .ref (G.2.1 + 12)] m0 none m' := by
  refine Ct_of hl0 (by decide) (Nat.le_of_ble_eq_true rfl) ?_
  intro p e s mid args below meth c ls C hrt hl hR
  have hx := C.1.1
  have hb := C.1.2.1
  have hl : lv_has ls 3 [(0, .ref (G.2.1 + 73)), (1, .ref (G.2.1 + 12))] := hl
  unfold F_Bk_copyFrom_2 at hF
  refine lv_aload_n hx hb (dk DX0_copyFrom 0 rfl) rfl (lv_at hl 0 rfl) ?_
  refine lv_aload_n hx hb (dk DX0_copyFrom 1 rfl) rfl (lv_at hl 1 rfl) ?_
  refine gX0_9 C hR ob12 (dk DX0_copyFrom 2 rfl) ?_
  refine pX0_9 (x := gI m0 12 0) C hR ob73 (dk DX0_copyFrom 3 rfl) (fun H locs hR => ?_)
  obtain ⟨mq1, emq1, hF⟩ := lt_ex hF
  have hR := Rp_at emq1 hR
  refine lv_iconst (v := (0 : Int32)) hx hb (dk DX0_copyFrom 4 rfl) (by decide) ?_
  refine lv_istore_n (lv' := [(2, .int (0 : Int32)), (0, .ref (G.2.1 + 73)), (1, .ref (G.2.1 + 12))]) hx hb (dk DX0_copyFrom 5 rfl) rfl hl (by decide) rfl (fun ls hl => ?_)
  have L10 : ∀ (nf : Nat) (xq3 : Int32) (mq2 : Mem) (H : Heap) (locs : List Loc) (ls : Array Slot), lv_has ls 3 [(0, .ref (G.2.1 + 73)), (1, .ref (G.2.1 + 12)), (2, .int xq3)] → Rp G mr0 N0 mq2 s H locs → F_Bk_copyFrom_2_L10 nf xq3 mq2 = some (v, m') → W p l e (rmD 1) s mid args below meth c H locs 0 0 (MQ below (QR G mr0 N0 none m') args s 0 0 (fun q => G.2.1 ≤ q)) (F0 mid 10 ls []) := by
    intro nf
    induction nf with
    | zero =>
      intro xq3 mq2 H locs ls hl hR hF
      rw [F_Bk_copyFrom_2_L10] at hF
      cases hF
    | succ nf ihq5 =>
      intro xq3 mq2 H locs ls hl hR hF
      rw [F_Bk_copyFrom_2_L10] at hF
      refine lv_iload_n hx hb (dk DX0_copyFrom 6 rfl) rfl (lv_at hl 2 rfl) ?_
      refine lv_sipush (v := (180 : Int32)) hx hb (dk DX0_copyFrom 7 rfl) (by decide) ?_
      refine lv_icmp_ge (tgt := 35) hx hb (dk DX0_copyFrom 8 rfl) (by decide) (fun c14 => ?_) (fun c14 => ?_)
      · have hF := if_t c14 hF
        cases hF
        exact r_vret C hrt hR (dk DX0_copyFrom 19 rfl)
      · have hF := if_f c14 hF
        refine lv_aload_n hx hb (dk DX0_copyFrom 9 rfl) rfl (lv_at hl 0 rfl) ?_
        refine gX0_15 C hR ob73 rf73_1 (dk DX0_copyFrom 10 rfl) ?_
        refine lv_iload_n hx hb (dk DX0_copyFrom 11 rfl) rfl (lv_at hl 2 rfl) ?_
        refine lv_aload_n hx hb (dk DX0_copyFrom 12 rfl) rfl (lv_at hl 1 rfl) ?_
        refine gX0_15 C hR ob12 rf12_1 (dk DX0_copyFrom 13 rfl) ?_
        refine lv_iload_n hx hb (dk DX0_copyFrom 14 rfl) rfl (lv_at hl 2 rfl) ?_
        obtain ⟨hq6, hF⟩ := ckB_ex hF
        refine r_iald C hR ob13 hq6 (dk DX0_copyFrom 15 rfl) ?_
        refine lv_topi (fun xq7 exq7 => ?_)
        have hF := lt_at exq7 hF
        obtain ⟨hq9, hF⟩ := ckB_ex hF
        refine r_iast C hR ob74 hq9 (dk DX0_copyFrom 16 rfl) (fun H locs hR => ?_)
        obtain ⟨mq8, emq8, hF⟩ := lt_ex hF
        have hR := Rp_at emq8 hR
        obtain ⟨xq10, exq10, hF⟩ := lt_ex hF
        refine lv_iinc (v := xq10) (lv' := [(2, .int xq10), (0, .ref (G.2.1 + 73)), (1, .ref (G.2.1 + 12))]) hx hb (dk DX0_copyFrom 17 rfl) hl (k := 2) rfl (by rw [exq10]; rfl) (by decide) rfl (fun ls hl => ?_)
        refine lv_goto (tgt := 10) hx hb (dk DX0_copyFrom 18 rfl) (by decide) ?_
        exact ihq5 xq10 mq8 _ _ ls (lv_sub hl [1, 2, 0] rfl) hR hF
  exact L10 1000000 (0 : Int32) mq1 _ _ ls (lv_sub hl [1, 2, 0] rfl) hR hF
set_option maxHeartbeats 4000000 in
set_option maxRecDepth 100000 in
theorem C_Gr_copyFrom_2 (l : Launch) (hl0 : l.stackTraces = false) (G : GG) (m0 : Mem) (v : Unit) (m' : Mem) (hF : F_Gr_copyFrom_2 m0 = some (v, m')) : Ct l G mr0 N0 yX1_copyFrom cX1_copyFrom 3 none 2 [.ref (G.2.1 + 64), .ref (G.2.1 + 3)] m0 none m' := by
  refine Ct_of hl0 (by decide) (Nat.le_of_ble_eq_true rfl) ?_
  intro p e s mid args below meth c ls C hrt hl hR
  have hx := C.1.1
  have hb := C.1.2.1
  have hl : lv_has ls 3 [(0, .ref (G.2.1 + 64)), (1, .ref (G.2.1 + 3))] := hl
  unfold F_Gr_copyFrom_2 at hF
  refine lv_aload_n hx hb (dk DX1_copyFrom 0 rfl) rfl (lv_at hl 0 rfl) ?_
  refine lv_aload_n hx hb (dk DX1_copyFrom 1 rfl) rfl (lv_at hl 1 rfl) ?_
  refine gX1_9 C hR ob3 (dk DX1_copyFrom 2 rfl) ?_
  refine pX1_9 (x := gI m0 3 0) C hR ob64 (dk DX1_copyFrom 3 rfl) (fun H locs hR => ?_)
  obtain ⟨mq1, emq1, hF⟩ := lt_ex hF
  have hR := Rp_at emq1 hR
  refine lv_aload_n hx hb (dk DX1_copyFrom 4 rfl) rfl (lv_at hl 0 rfl) ?_
  refine lv_aload_n hx hb (dk DX1_copyFrom 5 rfl) rfl (lv_at hl 1 rfl) ?_
  refine gX1_15 C hR ob3 (dk DX1_copyFrom 6 rfl) ?_
  refine pX1_15 (x := gI mq1 3 1) C hR ob64 (dk DX1_copyFrom 7 rfl) (fun H locs hR => ?_)
  obtain ⟨mq2, emq2, hF⟩ := lt_ex hF
  have hR := Rp_at emq2 hR
  refine lv_aload_n hx hb (dk DX1_copyFrom 8 rfl) rfl (lv_at hl 0 rfl) ?_
  refine lv_aload_n hx hb (dk DX1_copyFrom 9 rfl) rfl (lv_at hl 1 rfl) ?_
  refine gX1_18 C hR ob3 (dk DX1_copyFrom 10 rfl) ?_
  refine pX1_18 (x := gI mq2 3 2) C hR ob64 (dk DX1_copyFrom 11 rfl) (fun H locs hR => ?_)
  obtain ⟨mq3, emq3, hF⟩ := lt_ex hF
  have hR := Rp_at emq3 hR
  refine lv_aload_n hx hb (dk DX1_copyFrom 12 rfl) rfl (lv_at hl 0 rfl) ?_
  refine lv_aload_n hx hb (dk DX1_copyFrom 13 rfl) rfl (lv_at hl 1 rfl) ?_
  refine gX1_21 C hR ob3 (dk DX1_copyFrom 14 rfl) ?_
  refine pX1_21 (x := gI mq3 3 3) C hR ob64 (dk DX1_copyFrom 15 rfl) (fun H locs hR => ?_)
  obtain ⟨mq4, emq4, hF⟩ := lt_ex hF
  have hR := Rp_at emq4 hR
  refine lv_aload_n hx hb (dk DX1_copyFrom 16 rfl) rfl (lv_at hl 0 rfl) ?_
  refine lv_aload_n hx hb (dk DX1_copyFrom 17 rfl) rfl (lv_at hl 1 rfl) ?_
  refine gX1_24 C hR ob3 (dk DX1_copyFrom 18 rfl) ?_
  refine pX1_24 (x := gI mq4 3 4) C hR ob64 (dk DX1_copyFrom 19 rfl) (fun H locs hR => ?_)
  obtain ⟨mq5, emq5, hF⟩ := lt_ex hF
  have hR := Rp_at emq5 hR
  refine lv_aload_n hx hb (dk DX1_copyFrom 20 rfl) rfl (lv_at hl 0 rfl) ?_
  refine lv_aload_n hx hb (dk DX1_copyFrom 21 rfl) rfl (lv_at hl 1 rfl) ?_
  refine gX1_27 C hR ob3 (dk DX1_copyFrom 22 rfl) ?_
  refine pX1_27 (x := gI mq5 3 5) C hR ob64 (dk DX1_copyFrom 23 rfl) (fun H locs hR => ?_)
  obtain ⟨mq6, emq6, hF⟩ := lt_ex hF
  have hR := Rp_at emq6 hR
  refine lv_aload_n hx hb (dk DX1_copyFrom 24 rfl) rfl (lv_at hl 0 rfl) ?_
  refine lv_aload_n hx hb (dk DX1_copyFrom 25 rfl) rfl (lv_at hl 1 rfl) ?_
  refine gX1_30 C hR ob3 (dk DX1_copyFrom 26 rfl) ?_
  refine pX1_30 (x := gI mq6 3 6) C hR ob64 (dk DX1_copyFrom 27 rfl) (fun H locs hR => ?_)
  obtain ⟨mq7, emq7, hF⟩ := lt_ex hF
  have hR := Rp_at emq7 hR
  refine lv_iconst (v := (0 : Int32)) hx hb (dk DX1_copyFrom 28 rfl) (by decide) ?_
  refine lv_istore_n (lv' := [(2, .int (0 : Int32)), (0, .ref (G.2.1 + 64)), (1, .ref (G.2.1 + 3))]) hx hb (dk DX1_copyFrom 29 rfl) rfl hl (by decide) rfl (fun ls hl => ?_)
  obtain ⟨k93_8, ek93_8, hF⟩ := lt_ex hF
  have J93 : ∀ (mq8 : Mem) (H : Heap) (locs : List Loc) (ls : Array Slot), lv_has ls 3 [(0, .ref (G.2.1 + 64)), (1, .ref (G.2.1 + 3))] → Rp G mr0 N0 mq8 s H locs → k93_8  mq8 = some (v, m') → W p l e (rmD 2) s mid args below meth c H locs 0 0 (MQ below (QR G mr0 N0 none m') args s 0 0 (fun q => G.2.1 ≤ q)) (F0 mid 93 ls []) := by
    intro  mq8 H locs ls hl hR hF
    rw [ek93_8] at hF
    refine lv_iconst (v := (0 : Int32)) hx hb (dk DX1_copyFrom 51 rfl) (by decide) ?_
    refine lv_istore_n (lv' := [(2, .int (0 : Int32)), (0, .ref (G.2.1 + 64)), (1, .ref (G.2.1 + 3))]) hx hb (dk DX1_copyFrom 52 rfl) rfl hl (by decide) rfl (fun ls hl => ?_)
    obtain ⟨k131_9, ek131_9, hF⟩ := lt_ex hF
    have J131 : ∀ (mq9 : Mem) (H : Heap) (locs : List Loc) (ls : Array Slot), lv_has ls 3 [(0, .ref (G.2.1 + 64)), (1, .ref (G.2.1 + 3))] → Rp G mr0 N0 mq9 s H locs → k131_9  mq9 = some (v, m') → W p l e (rmD 2) s mid args below meth c H locs 0 0 (MQ below (QR G mr0 N0 none m') args s 0 0 (fun q => G.2.1 ≤ q)) (F0 mid 131 ls []) := by
      intro  mq9 H locs ls hl hR hF
      rw [ek131_9] at hF
      refine lv_aload_n hx hb (dk DX1_copyFrom 74 rfl) rfl (lv_at hl 0 rfl) ?_
      refine gX1_49 C hR ob64 rf64_11 (dk DX1_copyFrom 75 rfl) ?_
      refine lv_aload_n hx hb (dk DX1_copyFrom 76 rfl) rfl (lv_at hl 1 rfl) ?_
      refine gX1_49 C hR ob3 rf3_11 (dk DX1_copyFrom 77 rfl) ?_
      obtain ⟨uq12, mq10, hzq11, hF⟩ := bnd_ex hF
      refine r_callVv (As := [.ref (G.2.1 + 8)]) (rest := []) C hR (C_Lw_copyFrom_2 l hl0 G mq9 _ _ hzq11) (by decide) (by decide) ob69 rfl wX1_63 rfl rfl (Nat.le_of_ble_eq_true rfl) hl.1 ⟨Nat.zero_le _, Nat.zero_le _⟩ (dk DX1_copyFrom 78 rfl) (fun H locs hR => ?_)
      refine lv_aload_n hx hb (dk DX1_copyFrom 79 rfl) rfl (lv_at hl 0 rfl) ?_
      refine gX1_56 C hR ob64 rf64_12 (dk DX1_copyFrom 80 rfl) ?_
      refine lv_aload_n hx hb (dk DX1_copyFrom 81 rfl) rfl (lv_at hl 1 rfl) ?_
      refine gX1_56 C hR ob3 rf3_12 (dk DX1_copyFrom 82 rfl) ?_
      obtain ⟨uq15, mq13, hzq14, hF⟩ := bnd_ex hF
      refine r_callVv (As := [.ref (G.2.1 + 12)]) (rest := []) C hR (C_Bk_copyFrom_2 l hl0 G mq10 _ _ hzq14) (by decide) (by decide) ob73 rfl wX1_67 rfl rfl (Nat.le_of_ble_eq_true rfl) hl.1 ⟨Nat.zero_le _, Nat.zero_le _⟩ (dk DX1_copyFrom 83 rfl) (fun H locs hR => ?_)
      cases hF
      exact r_vret C hrt hR (dk DX1_copyFrom 84 rfl)
    have L95 : ∀ (nf : Nat) (xq17 : Int32) (mq16 : Mem) (H : Heap) (locs : List Loc) (ls : Array Slot), lv_has ls 3 [(0, .ref (G.2.1 + 64)), (1, .ref (G.2.1 + 3)), (2, .int xq17)] → Rp G mr0 N0 mq16 s H locs → F_Gr_copyFrom_2_L95 k131_9 nf xq17 mq16 = some (v, m') → W p l e (rmD 2) s mid args below meth c H locs 0 0 (MQ below (QR G mr0 N0 none m') args s 0 0 (fun q => G.2.1 ≤ q)) (F0 mid 95 ls []) := by
      intro nf
      induction nf with
      | zero =>
        intro xq17 mq16 H locs ls hl hR hF
        rw [F_Gr_copyFrom_2_L95] at hF
        cases hF
      | succ nf ihq19 =>
        intro xq17 mq16 H locs ls hl hR hF
        rw [F_Gr_copyFrom_2_L95] at hF
        refine lv_iload_n hx hb (dk DX1_copyFrom 53 rfl) rfl (lv_at hl 2 rfl) ?_
        refine lv_bipush (v := (16 : Int32)) hx hb (dk DX1_copyFrom 54 rfl) (by decide) ?_
        refine lv_icmp_ge (tgt := 131) hx hb (dk DX1_copyFrom 55 rfl) (by decide) (fun c98 => ?_) (fun c98 => ?_)
        · have hF := if_t c98 hF
          exact J131 mq16 _ _ ls (lv_sub hl [0, 1] rfl) hR hF
        · have hF := if_f c98 hF
          refine lv_aload_n hx hb (dk DX1_copyFrom 56 rfl) rfl (lv_at hl 0 rfl) ?_
          refine gX1_40 C hR ob64 rf64_9 (dk DX1_copyFrom 57 rfl) ?_
          refine lv_iload_n hx hb (dk DX1_copyFrom 58 rfl) rfl (lv_at hl 2 rfl) ?_
          refine lv_aload_n hx hb (dk DX1_copyFrom 59 rfl) rfl (lv_at hl 1 rfl) ?_
          refine gX1_40 C hR ob3 rf3_9 (dk DX1_copyFrom 60 rfl) ?_
          refine lv_iload_n hx hb (dk DX1_copyFrom 61 rfl) rfl (lv_at hl 2 rfl) ?_
          obtain ⟨hq20, hF⟩ := ckB_ex hF
          refine r_iald C hR ob6 hq20 (dk DX1_copyFrom 62 rfl) ?_
          refine lv_topi (fun xq21 exq21 => ?_)
          have hF := lt_at exq21 hF
          obtain ⟨hq23, hF⟩ := ckB_ex hF
          refine r_iast C hR ob67 hq23 (dk DX1_copyFrom 63 rfl) (fun H locs hR => ?_)
          obtain ⟨mq22, emq22, hF⟩ := lt_ex hF
          have hR := Rp_at emq22 hR
          refine lv_aload_n hx hb (dk DX1_copyFrom 64 rfl) rfl (lv_at hl 0 rfl) ?_
          refine gX1_43 C hR ob64 rf64_10 (dk DX1_copyFrom 65 rfl) ?_
          refine lv_iload_n hx hb (dk DX1_copyFrom 66 rfl) rfl (lv_at hl 2 rfl) ?_
          refine lv_aload_n hx hb (dk DX1_copyFrom 67 rfl) rfl (lv_at hl 1 rfl) ?_
          refine gX1_43 C hR ob3 rf3_10 (dk DX1_copyFrom 68 rfl) ?_
          refine lv_iload_n hx hb (dk DX1_copyFrom 69 rfl) rfl (lv_at hl 2 rfl) ?_
          obtain ⟨hq24, hF⟩ := ckB_ex hF
          refine r_iald C hR ob7 hq24 (dk DX1_copyFrom 70 rfl) ?_
          refine lv_topi (fun xq25 exq25 => ?_)
          have hF := lt_at exq25 hF
          obtain ⟨hq27, hF⟩ := ckB_ex hF
          refine r_iast C hR ob68 hq27 (dk DX1_copyFrom 71 rfl) (fun H locs hR => ?_)
          obtain ⟨mq26, emq26, hF⟩ := lt_ex hF
          have hR := Rp_at emq26 hR
          obtain ⟨xq28, exq28, hF⟩ := lt_ex hF
          refine lv_iinc (v := xq28) (lv' := [(2, .int xq28), (0, .ref (G.2.1 + 64)), (1, .ref (G.2.1 + 3))]) hx hb (dk DX1_copyFrom 72 rfl) hl (k := 2) rfl (by rw [exq28]; rfl) (by decide) rfl (fun ls hl => ?_)
          refine lv_goto (tgt := 95) hx hb (dk DX1_copyFrom 73 rfl) (by decide) ?_
          exact ihq19 xq28 mq26 _ _ ls (lv_sub hl [1, 2, 0] rfl) hR hF
    exact L95 1000000 (0 : Int32) mq8 _ _ ls (lv_sub hl [1, 2, 0] rfl) hR hF
  have L58 : ∀ (nf : Nat) (xq30 : Int32) (mq29 : Mem) (H : Heap) (locs : List Loc) (ls : Array Slot), lv_has ls 3 [(0, .ref (G.2.1 + 64)), (1, .ref (G.2.1 + 3)), (2, .int xq30)] → Rp G mr0 N0 mq29 s H locs → F_Gr_copyFrom_2_L58 k93_8 nf xq30 mq29 = some (v, m') → W p l e (rmD 2) s mid args below meth c H locs 0 0 (MQ below (QR G mr0 N0 none m') args s 0 0 (fun q => G.2.1 ≤ q)) (F0 mid 58 ls []) := by
    intro nf
    induction nf with
    | zero =>
      intro xq30 mq29 H locs ls hl hR hF
      rw [F_Gr_copyFrom_2_L58] at hF
      cases hF
    | succ nf ihq32 =>
      intro xq30 mq29 H locs ls hl hR hF
      rw [F_Gr_copyFrom_2_L58] at hF
      refine lv_iload_n hx hb (dk DX1_copyFrom 30 rfl) rfl (lv_at hl 2 rfl) ?_
      refine lv_iconst (v := (2 : Int32)) hx hb (dk DX1_copyFrom 31 rfl) (by decide) ?_
      refine lv_icmp_ge (tgt := 93) hx hb (dk DX1_copyFrom 32 rfl) (by decide) (fun c60 => ?_) (fun c60 => ?_)
      · have hF := if_t c60 hF
        exact J93 mq29 _ _ ls (lv_sub hl [0, 1] rfl) hR hF
      · have hF := if_f c60 hF
        refine lv_aload_n hx hb (dk DX1_copyFrom 33 rfl) rfl (lv_at hl 0 rfl) ?_
        refine gX1_33 C hR ob64 rf64_7 (dk DX1_copyFrom 34 rfl) ?_
        refine lv_iload_n hx hb (dk DX1_copyFrom 35 rfl) rfl (lv_at hl 2 rfl) ?_
        refine lv_aload_n hx hb (dk DX1_copyFrom 36 rfl) rfl (lv_at hl 1 rfl) ?_
        refine gX1_33 C hR ob3 rf3_7 (dk DX1_copyFrom 37 rfl) ?_
        refine lv_iload_n hx hb (dk DX1_copyFrom 38 rfl) rfl (lv_at hl 2 rfl) ?_
        obtain ⟨hq33, hF⟩ := ckB_ex hF
        refine r_iald C hR ob4 hq33 (dk DX1_copyFrom 39 rfl) ?_
        refine lv_topi (fun xq34 exq34 => ?_)
        have hF := lt_at exq34 hF
        obtain ⟨hq36, hF⟩ := ckB_ex hF
        refine r_iast C hR ob65 hq36 (dk DX1_copyFrom 40 rfl) (fun H locs hR => ?_)
        obtain ⟨mq35, emq35, hF⟩ := lt_ex hF
        have hR := Rp_at emq35 hR
        refine lv_aload_n hx hb (dk DX1_copyFrom 41 rfl) rfl (lv_at hl 0 rfl) ?_
        refine gX1_37 C hR ob64 rf64_8 (dk DX1_copyFrom 42 rfl) ?_
        refine lv_iload_n hx hb (dk DX1_copyFrom 43 rfl) rfl (lv_at hl 2 rfl) ?_
        refine lv_aload_n hx hb (dk DX1_copyFrom 44 rfl) rfl (lv_at hl 1 rfl) ?_
        refine gX1_37 C hR ob3 rf3_8 (dk DX1_copyFrom 45 rfl) ?_
        refine lv_iload_n hx hb (dk DX1_copyFrom 46 rfl) rfl (lv_at hl 2 rfl) ?_
        obtain ⟨hq37, hF⟩ := ckB_ex hF
        refine r_iald C hR ob5 hq37 (dk DX1_copyFrom 47 rfl) ?_
        refine lv_topi (fun xq38 exq38 => ?_)
        have hF := lt_at exq38 hF
        obtain ⟨hq40, hF⟩ := ckB_ex hF
        refine r_iast C hR ob66 hq40 (dk DX1_copyFrom 48 rfl) (fun H locs hR => ?_)
        obtain ⟨mq39, emq39, hF⟩ := lt_ex hF
        have hR := Rp_at emq39 hR
        obtain ⟨xq41, exq41, hF⟩ := lt_ex hF
        refine lv_iinc (v := xq41) (lv' := [(2, .int xq41), (0, .ref (G.2.1 + 64)), (1, .ref (G.2.1 + 3))]) hx hb (dk DX1_copyFrom 49 rfl) hl (k := 2) rfl (by rw [exq41]; rfl) (by decide) rfl (fun ls hl => ?_)
        refine lv_goto (tgt := 58) hx hb (dk DX1_copyFrom 50 rfl) (by decide) ?_
        exact ihq32 xq41 mq39 _ _ ls (lv_sub hl [1, 2, 0] rfl) hR hF
  exact L58 1000000 (0 : Int32) mq7 _ _ ls (lv_sub hl [1, 2, 0] rfl) hR hF
set_option maxHeartbeats 4000000 in
set_option maxRecDepth 100000 in
theorem C_Ma_copyFrom_3 (l : Launch) (hl0 : l.stackTraces = false) (G : GG) (m0 : Mem) (v : Unit) (m' : Mem) (hF : F_Ma_copyFrom_3 m0 = some (v, m')) : Ct l G mr0 N0 yX5_copyFrom cX5_copyFrom 3 none 1 [.ref (G.2.1 + 76), .ref (G.2.1 + 16)] m0 none m' := by
  refine Ct_of hl0 (by decide) (Nat.le_of_ble_eq_true rfl) ?_
  intro p e s mid args below meth c ls C hrt hl hR
  have hx := C.1.1
  have hb := C.1.2.1
  have hl : lv_has ls 3 [(0, .ref (G.2.1 + 76)), (1, .ref (G.2.1 + 16))] := hl
  unfold F_Ma_copyFrom_3 at hF
  refine lv_aload_n hx hb (dk DX5_copyFrom 0 rfl) rfl (lv_at hl 0 rfl) ?_
  refine lv_aload_n hx hb (dk DX5_copyFrom 1 rfl) rfl (lv_at hl 1 rfl) ?_
  refine gX5_9 C hR ob16 (dk DX5_copyFrom 2 rfl) ?_
  refine pX5_9 (x := gI m0 16 0) C hR ob76 (dk DX5_copyFrom 3 rfl) (fun H locs hR => ?_)
  obtain ⟨mq1, emq1, hF⟩ := lt_ex hF
  have hR := Rp_at emq1 hR
  refine lv_aload_n hx hb (dk DX5_copyFrom 4 rfl) rfl (lv_at hl 0 rfl) ?_
  refine lv_aload_n hx hb (dk DX5_copyFrom 5 rfl) rfl (lv_at hl 1 rfl) ?_
  refine gX5_15 C hR ob16 (dk DX5_copyFrom 6 rfl) ?_
  refine pX5_15 (x := gI mq1 16 1) C hR ob76 (dk DX5_copyFrom 7 rfl) (fun H locs hR => ?_)
  obtain ⟨mq2, emq2, hF⟩ := lt_ex hF
  have hR := Rp_at emq2 hR
  refine lv_aload_n hx hb (dk DX5_copyFrom 8 rfl) rfl (lv_at hl 0 rfl) ?_
  refine lv_aload_n hx hb (dk DX5_copyFrom 9 rfl) rfl (lv_at hl 1 rfl) ?_
  refine gX5_18 C hR ob16 (dk DX5_copyFrom 10 rfl) ?_
  refine pX5_18 (x := gI mq2 16 2) C hR ob76 (dk DX5_copyFrom 11 rfl) (fun H locs hR => ?_)
  obtain ⟨mq3, emq3, hF⟩ := lt_ex hF
  have hR := Rp_at emq3 hR
  refine lv_aload_n hx hb (dk DX5_copyFrom 12 rfl) rfl (lv_at hl 0 rfl) ?_
  refine lv_aload_n hx hb (dk DX5_copyFrom 13 rfl) rfl (lv_at hl 1 rfl) ?_
  refine gX5_21 C hR ob16 (dk DX5_copyFrom 14 rfl) ?_
  refine pX5_21 (x := gI mq3 16 3) C hR ob76 (dk DX5_copyFrom 15 rfl) (fun H locs hR => ?_)
  obtain ⟨mq4, emq4, hF⟩ := lt_ex hF
  have hR := Rp_at emq4 hR
  refine lv_aload_n hx hb (dk DX5_copyFrom 16 rfl) rfl (lv_at hl 0 rfl) ?_
  refine lv_aload_n hx hb (dk DX5_copyFrom 17 rfl) rfl (lv_at hl 1 rfl) ?_
  refine gX5_24 C hR ob16 (dk DX5_copyFrom 18 rfl) ?_
  refine pX5_24 (x := gI mq4 16 4) C hR ob76 (dk DX5_copyFrom 19 rfl) (fun H locs hR => ?_)
  obtain ⟨mq5, emq5, hF⟩ := lt_ex hF
  have hR := Rp_at emq5 hR
  refine lv_aload_n hx hb (dk DX5_copyFrom 20 rfl) rfl (lv_at hl 0 rfl) ?_
  refine lv_aload_n hx hb (dk DX5_copyFrom 21 rfl) rfl (lv_at hl 1 rfl) ?_
  refine gX5_27 C hR ob16 (dk DX5_copyFrom 22 rfl) ?_
  refine pX5_27 (x := gZ mq5 16 5) C hR ob76 (dk DX5_copyFrom 23 rfl) (fun H locs hR => ?_)
  obtain ⟨mq6, emq6, hF⟩ := lt_ex hF
  have hR := Rp_at emq6 hR
  refine lv_aload_n hx hb (dk DX5_copyFrom 24 rfl) rfl (lv_at hl 0 rfl) ?_
  refine lv_aload_n hx hb (dk DX5_copyFrom 25 rfl) rfl (lv_at hl 1 rfl) ?_
  refine gX5_31 C hR ob16 (dk DX5_copyFrom 26 rfl) ?_
  refine pX5_31 (x := gZ mq6 16 6) C hR ob76 (dk DX5_copyFrom 27 rfl) (fun H locs hR => ?_)
  obtain ⟨mq7, emq7, hF⟩ := lt_ex hF
  have hR := Rp_at emq7 hR
  refine lv_aload_n hx hb (dk DX5_copyFrom 28 rfl) rfl (lv_at hl 0 rfl) ?_
  refine lv_aload_n hx hb (dk DX5_copyFrom 29 rfl) rfl (lv_at hl 1 rfl) ?_
  refine gX5_34 C hR ob16 (dk DX5_copyFrom 30 rfl) ?_
  refine pX5_34 (x := gI mq7 16 7) C hR ob76 (dk DX5_copyFrom 31 rfl) (fun H locs hR => ?_)
  obtain ⟨mq8, emq8, hF⟩ := lt_ex hF
  have hR := Rp_at emq8 hR
  refine lv_aload_n hx hb (dk DX5_copyFrom 32 rfl) rfl (lv_at hl 0 rfl) ?_
  refine lv_aload_n hx hb (dk DX5_copyFrom 33 rfl) rfl (lv_at hl 1 rfl) ?_
  refine gX5_37 C hR ob16 (dk DX5_copyFrom 34 rfl) ?_
  refine pX5_37 (x := gI mq8 16 8) C hR ob76 (dk DX5_copyFrom 35 rfl) (fun H locs hR => ?_)
  obtain ⟨mq9, emq9, hF⟩ := lt_ex hF
  have hR := Rp_at emq9 hR
  refine lv_aload_n hx hb (dk DX5_copyFrom 36 rfl) rfl (lv_at hl 0 rfl) ?_
  refine lv_aload_n hx hb (dk DX5_copyFrom 37 rfl) rfl (lv_at hl 1 rfl) ?_
  refine gX5_40 C hR ob16 (dk DX5_copyFrom 38 rfl) ?_
  refine pX5_40 (x := gI mq9 16 9) C hR ob76 (dk DX5_copyFrom 39 rfl) (fun H locs hR => ?_)
  obtain ⟨mq10, emq10, hF⟩ := lt_ex hF
  have hR := Rp_at emq10 hR
  refine lv_iconst (v := (0 : Int32)) hx hb (dk DX5_copyFrom 40 rfl) (by decide) ?_
  refine lv_istore_n (lv' := [(2, .int (0 : Int32)), (0, .ref (G.2.1 + 76)), (1, .ref (G.2.1 + 16))]) hx hb (dk DX5_copyFrom 41 rfl) rfl hl (by decide) rfl (fun ls hl => ?_)
  have L82 : ∀ (nf : Nat) (xq12 : Int32) (mq11 : Mem) (H : Heap) (locs : List Loc) (ls : Array Slot), lv_has ls 3 [(0, .ref (G.2.1 + 76)), (1, .ref (G.2.1 + 16)), (2, .int xq12)] → Rp G mr0 N0 mq11 s H locs → F_Ma_copyFrom_3_L82 nf xq12 mq11 = some (v, m') → W p l e (rmD 1) s mid args below meth c H locs 0 0 (MQ below (QR G mr0 N0 none m') args s 0 0 (fun q => G.2.1 ≤ q)) (F0 mid 82 ls []) := by
    intro nf
    induction nf with
    | zero =>
      intro xq12 mq11 H locs ls hl hR hF
      rw [F_Ma_copyFrom_3_L82] at hF
      cases hF
    | succ nf ihq14 =>
      intro xq12 mq11 H locs ls hl hR hF
      rw [F_Ma_copyFrom_3_L82] at hF
      refine lv_iload_n hx hb (dk DX5_copyFrom 42 rfl) rfl (lv_at hl 2 rfl) ?_
      refine lv_bipush (v := (63 : Int32)) hx hb (dk DX5_copyFrom 43 rfl) (by decide) ?_
      refine lv_icmp_ge (tgt := 106) hx hb (dk DX5_copyFrom 44 rfl) (by decide) (fun c85 => ?_) (fun c85 => ?_)
      · have hF := if_t c85 hF
        cases hF
        exact r_vret C hrt hR (dk DX5_copyFrom 55 rfl)
      · have hF := if_f c85 hF
        refine lv_aload_n hx hb (dk DX5_copyFrom 45 rfl) rfl (lv_at hl 0 rfl) ?_
        refine gX5_43 C hR ob76 rf76_10 (dk DX5_copyFrom 46 rfl) ?_
        refine lv_iload_n hx hb (dk DX5_copyFrom 47 rfl) rfl (lv_at hl 2 rfl) ?_
        refine lv_aload_n hx hb (dk DX5_copyFrom 48 rfl) rfl (lv_at hl 1 rfl) ?_
        refine gX5_43 C hR ob16 rf16_10 (dk DX5_copyFrom 49 rfl) ?_
        refine lv_iload_n hx hb (dk DX5_copyFrom 50 rfl) rfl (lv_at hl 2 rfl) ?_
        obtain ⟨hq15, hF⟩ := ckB_ex hF
        refine r_iald C hR ob17 hq15 (dk DX5_copyFrom 51 rfl) ?_
        refine lv_topi (fun xq16 exq16 => ?_)
        have hF := lt_at exq16 hF
        obtain ⟨hq18, hF⟩ := ckB_ex hF
        refine r_iast C hR ob77 hq18 (dk DX5_copyFrom 52 rfl) (fun H locs hR => ?_)
        obtain ⟨mq17, emq17, hF⟩ := lt_ex hF
        have hR := Rp_at emq17 hR
        obtain ⟨xq19, exq19, hF⟩ := lt_ex hF
        refine lv_iinc (v := xq19) (lv' := [(2, .int xq19), (0, .ref (G.2.1 + 76)), (1, .ref (G.2.1 + 16))]) hx hb (dk DX5_copyFrom 53 rfl) hl (k := 2) rfl (by rw [exq19]; rfl) (by decide) rfl (fun ls hl => ?_)
        refine lv_goto (tgt := 82) hx hb (dk DX5_copyFrom 54 rfl) (by decide) ?_
        exact ihq14 xq19 mq17 _ _ ls (lv_sub hl [1, 2, 0] rfl) hR hF
  exact L82 1000000 (0 : Int32) mq10 _ _ ls (lv_sub hl [1, 2, 0] rfl) hR hF
set_option maxHeartbeats 4000000 in
set_option maxRecDepth 100000 in
theorem C_T_image (l : Launch) (hl0 : l.stackTraces = false) (G : GG) (m0 : Mem) (v : Unit) (m' : Mem) (hF : F_T_image m0 = some (v, m')) : Ct l G mr0 N0 yX10_image cX10_image 1 none 3 [.ref (G.2.1 + 0)] m0 none m' := by
  refine Ct_of hl0 (by decide) (Nat.le_of_ble_eq_true rfl) ?_
  intro p e s mid args below meth c ls C hrt hl hR
  have hx := C.1.1
  have hb := C.1.2.1
  have hl : lv_has ls 1 [(0, .ref (G.2.1 + 0))] := hl
  unfold F_T_image at hF
  refine lv_aload_n hx hb (dk DX10_image 0 rfl) rfl (lv_at hl 0 rfl) ?_
  refine gX10_75 C hR ob0 rf0_11 (dk DX10_image 1 rfl) ?_
  refine lv_aload_n hx hb (dk DX10_image 2 rfl) rfl (lv_at hl 0 rfl) ?_
  refine gX10_31 C hR ob0 rf0_4 (dk DX10_image 3 rfl) ?_
  obtain ⟨uq3, mq1, hzq2, hF⟩ := bnd_ex hF
  refine r_callVv (As := [.ref (G.2.1 + 3)]) (rest := []) C hR (C_Gr_copyFrom_2 l hl0 G m0 _ _ hzq2) (by decide) (by decide) ob64 rfl wX10_283 rfl rfl (Nat.le_of_ble_eq_true rfl) hl.1 ⟨Nat.zero_le _, Nat.zero_le _⟩ (dk DX10_image 4 rfl) (fun H locs hR => ?_)
  refine lv_aload_n hx hb (dk DX10_image 5 rfl) rfl (lv_at hl 0 rfl) ?_
  refine gX10_78 C hR ob0 rf0_12 (dk DX10_image 6 rfl) ?_
  refine lv_aload_n hx hb (dk DX10_image 7 rfl) rfl (lv_at hl 0 rfl) ?_
  refine gX10_37 C hR ob0 rf0_5 (dk DX10_image 8 rfl) ?_
  obtain ⟨uq6, mq4, hzq5, hF⟩ := bnd_ex hF
  refine r_callVv (As := [.ref (G.2.1 + 16)]) (rest := []) C hR (C_Ma_copyFrom_3 l hl0 G mq1 _ _ hzq5) (by decide) (by decide) ob76 rfl wX10_285 rfl rfl (Nat.le_of_ble_eq_true rfl) hl.1 ⟨Nat.zero_le _, Nat.zero_le _⟩ (dk DX10_image 9 rfl) (fun H locs hR => ?_)
  refine lv_aload_n hx hb (dk DX10_image 10 rfl) rfl (lv_at hl 0 rfl) ?_
  refine lv_iconst (v := (1 : Int32)) hx hb (dk DX10_image 11 rfl) (by decide) ?_
  refine pX10_81 (x := true) C hR ob0 (dk DX10_image 12 rfl) (fun H locs hR => ?_)
  obtain ⟨mq7, emq7, hF⟩ := lt_ex hF
  have hR := Rp_at emq7 hR
  cases hF
  exact r_vret C hrt hR (dk DX10_image 13 rfl)
set_option maxHeartbeats 4000000 in
set_option maxRecDepth 100000 in
theorem C_Tx_addThingL (l : Launch) (hl0 : l.stackTraces = false) (G : GG) (a1 : Int32) (a2 : Int32) (a3 : Int32) (m0 : Mem) (v : Unit) (m' : Mem) (hF : F_Tx_addThingL a1 a2 a3 m0 = some (v, m')) : Ct l G mr0 N0 yX9_addThing cX9_addThing 4 none 1 [.ref (G.2.1 + 52), .int a1, .int a2, .int a3] m0 none m' := by
  refine Ct_of hl0 (by decide) (Nat.le_of_ble_eq_true rfl) ?_
  intro p e s mid args below meth c ls C hrt hl hR
  have hx := C.1.1
  have hb := C.1.2.1
  have hl : lv_has ls 4 [(0, .ref (G.2.1 + 52)), (1, .int a1), (2, .int a2), (3, .int a3)] := hl
  unfold F_Tx_addThingL at hF
  refine lv_aload_n hx hb (dk DX9_addThing 0 rfl) rfl (lv_at hl 0 rfl) ?_
  refine gX9_24_4 C hR ob52 (dk DX9_addThing 1 rfl) ?_
  refine lv_if_lt (tgt := 57) hx hb (dk DX9_addThing 2 rfl) (by decide) (fun c4 => ?_) (fun c4 => ?_)
  · have hF := if_t c4 hF
    cases hF
    exact r_vret C hrt hR (dk DX9_addThing 31 rfl)
  · have hF := if_f c4 hF
    refine lv_aload_n hx hb (dk DX9_addThing 3 rfl) rfl (lv_at hl 0 rfl) ?_
    refine gX9_24_4 C hR ob52 (dk DX9_addThing 4 rfl) ?_
    refine lv_sipush (v := (400 : Int32)) hx hb (dk DX9_addThing 5 rfl) (by decide) ?_
    refine lv_icmp_gt (tgt := 57) hx hb (dk DX9_addThing 6 rfl) (by decide) (fun c14 => ?_) (fun c14 => ?_)
    · have hF := if_t c14 hF
      cases hF
      exact r_vret C hrt hR (dk DX9_addThing 31 rfl)
    · have hF := if_f c14 hF
      refine lv_aload_n hx hb (dk DX9_addThing 7 rfl) rfl (lv_at hl 0 rfl) ?_
      refine gX9_15_4 C hR ob52 rf52_1 (dk DX9_addThing 8 rfl) ?_
      refine lv_aload_n hx hb (dk DX9_addThing 9 rfl) rfl (lv_at hl 0 rfl) ?_
      refine gX9_24_4 C hR ob52 (dk DX9_addThing 10 rfl) ?_
      refine lv_iload_n hx hb (dk DX9_addThing 11 rfl) rfl (lv_at hl 1 rfl) ?_
      obtain ⟨hq2, hF⟩ := ckB_ex hF
      refine r_iast C hR ob54 hq2 (dk DX9_addThing 12 rfl) (fun H locs hR => ?_)
      obtain ⟨mq1, emq1, hF⟩ := lt_ex hF
      have hR := Rp_at emq1 hR
      refine lv_aload_n hx hb (dk DX9_addThing 13 rfl) rfl (lv_at hl 0 rfl) ?_
      refine gX9_18_4 C hR ob52 rf52_2 (dk DX9_addThing 14 rfl) ?_
      refine lv_aload_n hx hb (dk DX9_addThing 15 rfl) rfl (lv_at hl 0 rfl) ?_
      refine gX9_24_4 C hR ob52 (dk DX9_addThing 16 rfl) ?_
      refine lv_iload_n hx hb (dk DX9_addThing 17 rfl) rfl (lv_at hl 2 rfl) ?_
      obtain ⟨hq4, hF⟩ := ckB_ex hF
      refine r_iast C hR ob55 hq4 (dk DX9_addThing 18 rfl) (fun H locs hR => ?_)
      obtain ⟨mq3, emq3, hF⟩ := lt_ex hF
      have hR := Rp_at emq3 hR
      refine lv_aload_n hx hb (dk DX9_addThing 19 rfl) rfl (lv_at hl 0 rfl) ?_
      refine gX9_21_4 C hR ob52 rf52_3 (dk DX9_addThing 20 rfl) ?_
      refine lv_aload_n hx hb (dk DX9_addThing 21 rfl) rfl (lv_at hl 0 rfl) ?_
      refine gX9_24_4 C hR ob52 (dk DX9_addThing 22 rfl) ?_
      refine lv_iload_n hx hb (dk DX9_addThing 23 rfl) rfl (lv_at hl 3 rfl) ?_
      obtain ⟨hq6, hF⟩ := ckB_ex hF
      refine r_iast C hR ob56 hq6 (dk DX9_addThing 24 rfl) (fun H locs hR => ?_)
      obtain ⟨mq5, emq5, hF⟩ := lt_ex hF
      have hR := Rp_at emq5 hR
      refine lv_aload_n hx hb (dk DX9_addThing 25 rfl) rfl (lv_at hl 0 rfl) ?_
      refine lv_dup hx hb (dk DX9_addThing 26 rfl) rfl ?_
      refine gX9_24_4 C hR ob52 (dk DX9_addThing 27 rfl) ?_
      refine lv_iconst (v := (1 : Int32)) hx hb (dk DX9_addThing 28 rfl) (by decide) ?_
      refine lv_iadd hx hb (dk DX9_addThing 29 rfl) ?_
      refine pX9_24_4 (x := (gI mq5 52 4) + (1 : Int32)) C hR ob52 (dk DX9_addThing 30 rfl) (fun H locs hR => ?_)
      obtain ⟨mq7, emq7, hF⟩ := lt_ex hF
      have hR := Rp_at emq7 hR
      cases hF
      exact r_vret C hrt hR (dk DX9_addThing 31 rfl)
set_option maxHeartbeats 4000000 in
set_option maxRecDepth 100000 in
theorem C_Tx_cutL (l : Launch) (hl0 : l.stackTraces = false) (G : GG) (a2 : Int32) (m0 : Mem) (v : Unit) (m' : Mem) (hF : F_Tx_cutL a2 m0 = some (v, m')) : Ct l G mr0 N0 yX9_cut cX9_cut 6 none 2 [.ref (G.2.1 + 52), .ref (G.2.1 + 1), .int a2] m0 none m' := by
  refine Ct_of hl0 (by decide) (Nat.le_of_ble_eq_true rfl) ?_
  intro p e s mid args below meth c ls C hrt hl hR
  have hx := C.1.1
  have hb := C.1.2.1
  have hl : lv_has ls 6 [(0, .ref (G.2.1 + 52)), (1, .ref (G.2.1 + 1)), (2, .int a2)] := hl
  unfold F_Tx_cutL at hF
  refine lv_aload_n hx hb (dk DX9_cut 0 rfl) rfl (lv_at hl 0 rfl) ?_
  refine lv_iconst (v := (0 : Int32)) hx hb (dk DX9_cut 1 rfl) (by decide) ?_
  refine pX9_24_4 (x := (0 : Int32)) C hR ob52 (dk DX9_cut 2 rfl) (fun H locs hR => ?_)
  obtain ⟨mq1, emq1, hF⟩ := lt_ex hF
  have hR := Rp_at emq1 hR
  refine lv_iconst (v := (0 : Int32)) hx hb (dk DX9_cut 3 rfl) (by decide) ?_
  refine lv_istore_n (lv' := [(3, .int (0 : Int32)), (0, .ref (G.2.1 + 52)), (1, .ref (G.2.1 + 1)), (2, .int a2)]) hx hb (dk DX9_cut 4 rfl) rfl hl (by decide) rfl (fun ls hl => ?_)
  obtain ⟨k98_2, ek98_2, hF⟩ := lt_ex hF
  have J98 : ∀ (mq2 : Mem) (H : Heap) (locs : List Loc) (ls : Array Slot), lv_has ls 6 [(0, .ref (G.2.1 + 52)), (2, .int a2)] → Rp G mr0 N0 mq2 s H locs → k98_2  mq2 = some (v, m') → W p l e (rmD 2) s mid args below meth c H locs 0 0 (MQ below (QR G mr0 N0 none m') args s 0 0 (fun q => G.2.1 ≤ q)) (F0 mid 98 ls []) := by
    intro  mq2 H locs ls hl hR hF
    rw [ek98_2] at hF
    refine lv_aload_n hx hb (dk DX9_cut 58 rfl) rfl (lv_at hl 0 rfl) ?_
    refine lv_iconst (v := (3 : Int32)) hx hb (dk DX9_cut 59 rfl) (by decide) ?_
    refine lv_iconst (v := (0 : Int32)) hx hb (dk DX9_cut 60 rfl) (by decide) ?_
    refine lv_iload_n hx hb (dk DX9_cut 61 rfl) rfl (lv_at hl 1 rfl) ?_
    refine r_mxI C (gd q813 rfl) (by decide) (Nat.le_of_ble_eq_true rfl) hl.1 ⟨Nat.zero_le _, Nat.zero_le _⟩ (dk DX9_cut 62 rfl) ?_
    refine lv_iconst (v := (0 : Int32)) hx hb (dk DX9_cut 63 rfl) (by decide) ?_
    refine lv_iload_n hx hb (dk DX9_cut 64 rfl) rfl (lv_at hl 1 rfl) ?_
    refine r_mxI C (gd q813 rfl) (by decide) (Nat.le_of_ble_eq_true rfl) hl.1 ⟨Nat.zero_le _, Nat.zero_le _⟩ (dk DX9_cut 65 rfl) ?_
    obtain ⟨uq5, mq3, hzq4, hF⟩ := bnd_ex hF
    refine r_callVv (As := [.int (3 : Int32), .int (mxI (0 : Int32) a2), .int (mxI (0 : Int32) a2)]) (rest := []) C hR (C_Tx_addThingL l hl0 G (3 : Int32) (mxI (0 : Int32) a2) (mxI (0 : Int32) a2) mq2 _ _ hzq4) (by decide) (by decide) ob52 rfl wX9_62_4 rfl rfl (Nat.le_of_ble_eq_true rfl) hl.1 ⟨Nat.zero_le _, Nat.zero_le _⟩ (dk DX9_cut 66 rfl) (fun H locs hR => ?_)
    cases hF
    exact r_vret C hrt hR (dk DX9_cut 67 rfl)
  have L7 : ∀ (nf : Nat) (xq7 : Int32) (mq6 : Mem) (H : Heap) (locs : List Loc) (ls : Array Slot), lv_has ls 6 [(0, .ref (G.2.1 + 52)), (1, .ref (G.2.1 + 1)), (2, .int a2), (3, .int xq7)] → Rp G mr0 N0 mq6 s H locs → F_Tx_cutL_L7 a2 k98_2 nf xq7 mq6 = some (v, m') → W p l e (rmD 2) s mid args below meth c H locs 0 0 (MQ below (QR G mr0 N0 none m') args s 0 0 (fun q => G.2.1 ≤ q)) (F0 mid 7 ls []) := by
    intro nf
    induction nf with
    | zero =>
      intro xq7 mq6 H locs ls hl hR hF
      rw [F_Tx_cutL_L7] at hF
      cases hF
    | succ nf ihq9 =>
      intro xq7 mq6 H locs ls hl hR hF
      rw [F_Tx_cutL_L7] at hF
      refine lv_iload_n hx hb (dk DX9_cut 5 rfl) rfl (lv_at hl 3 rfl) ?_
      refine lv_iload_n hx hb (dk DX9_cut 6 rfl) rfl (lv_at hl 2 rfl) ?_
      refine lv_icmp_ge (tgt := 98) hx hb (dk DX9_cut 7 rfl) (by decide) (fun c9 => ?_) (fun c9 => ?_)
      · have hF := if_t c9 hF
        exact J98 mq6 _ _ ls (lv_sub hl [0, 2] rfl) hR hF
      · have hF := if_f c9 hF
        refine lv_aload_n hx hb (dk DX9_cut 8 rfl) rfl (lv_at hl 0 rfl) ?_
        refine gX9_9_4 C hR ob52 rf52_0 (dk DX9_cut 9 rfl) ?_
        refine lv_iload_n hx hb (dk DX9_cut 10 rfl) rfl (lv_at hl 3 rfl) ?_
        refine lv_aload_n hx hb (dk DX9_cut 11 rfl) rfl (lv_at hl 1 rfl) ?_
        refine lv_iload_n hx hb (dk DX9_cut 12 rfl) rfl (lv_at hl 3 rfl) ?_
        obtain ⟨hq10, hF⟩ := ckB_ex hF
        refine r_iald C hR ob1 hq10 (dk DX9_cut 13 rfl) ?_
        refine lv_topi (fun xq11 exq11 => ?_)
        have hF := lt_at exq11 hF
        obtain ⟨hq13, hF⟩ := ckB_ex hF
        refine r_iast C hR ob53 hq13 (dk DX9_cut 14 rfl) (fun H locs hR => ?_)
        obtain ⟨mq12, emq12, hF⟩ := lt_ex hF
        have hR := Rp_at emq12 hR
        refine lv_iload_n hx hb (dk DX9_cut 15 rfl) rfl (lv_at hl 3 rfl) ?_
        refine lv_iconst (v := (1 : Int32)) hx hb (dk DX9_cut 16 rfl) (by decide) ?_
        refine lv_iadd hx hb (dk DX9_cut 17 rfl) ?_
        refine lv_topi (fun xq14 exq14 => ?_)
        have hF := lt_at exq14 hF
        refine lv_istore (lv' := [(4, .int xq14), (0, .ref (G.2.1 + 52)), (1, .ref (G.2.1 + 1)), (2, .int a2), (3, .int xq7)]) hx hb (dk DX9_cut 18 rfl) hl (by decide) rfl (fun ls hl => ?_)
        refine lv_aload_n hx hb (dk DX9_cut 19 rfl) rfl (lv_at hl 2 rfl) ?_
        refine lv_iload_n hx hb (dk DX9_cut 20 rfl) rfl (lv_at hl 4 rfl) ?_
        obtain ⟨hq15, hF⟩ := ckB_ex hF
        refine r_iald C hR ob1 hq15 (dk DX9_cut 21 rfl) ?_
        refine lv_topi (fun xq16 exq16 => ?_)
        have hF := lt_at exq16 hF
        obtain ⟨xq19, mq17, hzq18, hF⟩ := bnd_ex hF
        refine r_callSi (As := [.int xq16]) (rest := []) C hR (C_Tx_kindOf l hl0 G xq16 mq12 _ _ hzq18) (by decide) (by decide) wX9_58 rfl rfl (Nat.le_of_ble_eq_true rfl) hl.1 ⟨Nat.zero_le _, Nat.zero_le _⟩ (dk DX9_cut 22 rfl) (fun H locs hR => ?_)
        refine lv_istore (lv' := [(5, .int xq19), (4, .int xq14), (0, .ref (G.2.1 + 52)), (1, .ref (G.2.1 + 1)), (2, .int a2), (3, .int xq7)]) hx hb (dk DX9_cut 23 rfl) hl (by decide) rfl (fun ls hl => ?_)
        obtain ⟨k75_21, ek75_21, hF⟩ := lt_ex hF
        have J75 : ∀ (xq21 : Int32) (mq20 : Mem) (H : Heap) (locs : List Loc) (ls : Array Slot), lv_has ls 6 [(0, .ref (G.2.1 + 52)), (1, .ref (G.2.1 + 1)), (2, .int a2), (3, .int xq7), (4, .int xq21), (5, .int xq19)] → Rp G mr0 N0 mq20 s H locs → k75_21 xq21 mq20 = some (v, m') → W p l e (rmD 2) s mid args below meth c H locs 0 0 (MQ below (QR G mr0 N0 none m') args s 0 0 (fun q => G.2.1 ≤ q)) (F0 mid 75 ls []) := by
          intro xq21 mq20 H locs ls hl hR hF
          rw [ek75_21] at hF
          refine lv_aload_n hx hb (dk DX9_cut 45 rfl) rfl (lv_at hl 1 rfl) ?_
          refine lv_iload_n hx hb (dk DX9_cut 46 rfl) rfl (lv_at hl 3 rfl) ?_
          obtain ⟨hq22, hF⟩ := ckB_ex hF
          refine r_iald C hR ob1 hq22 (dk DX9_cut 47 rfl) ?_
          refine lv_topi (fun xq23 exq23 => ?_)
          have hF := lt_at exq23 hF
          refine lv_bipush (v := (32 : Int32)) hx hb (dk DX9_cut 48 rfl) (by decide) ?_
          obtain ⟨k92_24, ek92_24, hF⟩ := lt_ex hF
          have J92 : ∀ (mq24 : Mem) (H : Heap) (locs : List Loc) (ls : Array Slot), lv_has ls 6 [(0, .ref (G.2.1 + 52)), (1, .ref (G.2.1 + 1)), (2, .int a2), (4, .int xq21)] → Rp G mr0 N0 mq24 s H locs → k92_24  mq24 = some (v, m') → W p l e (rmD 2) s mid args below meth c H locs 0 0 (MQ below (QR G mr0 N0 none m') args s 0 0 (fun q => G.2.1 ≤ q)) (F0 mid 92 ls []) := by
            intro  mq24 H locs ls hl hR hF
            rw [ek92_24] at hF
            refine lv_iload hx hb (dk DX9_cut 55 rfl) (lv_at hl 3 rfl) ?_
            refine lv_istore_n (lv' := [(3, .int xq21), (0, .ref (G.2.1 + 52)), (1, .ref (G.2.1 + 1)), (2, .int a2), (4, .int xq21)]) hx hb (dk DX9_cut 56 rfl) rfl hl (by decide) rfl (fun ls hl => ?_)
            refine lv_goto (tgt := 7) hx hb (dk DX9_cut 57 rfl) (by decide) ?_
            exact ihq9 xq21 mq24 _ _ ls (lv_sub hl [1, 2, 3, 0] rfl) hR hF
          refine lv_icmp_eq (tgt := 92) hx hb (dk DX9_cut 49 rfl) (by decide) (fun c80 => ?_) (fun c80 => ?_)
          · have hF := if_t c80 hF
            exact J92 mq20 _ _ ls (lv_sub hl [0, 1, 2, 4] rfl) hR hF
          · have hF := if_f c80 hF
            refine lv_aload_n hx hb (dk DX9_cut 50 rfl) rfl (lv_at hl 0 rfl) ?_
            refine lv_iload hx hb (dk DX9_cut 51 rfl) (lv_at hl 5 rfl) ?_
            refine lv_iload_n hx hb (dk DX9_cut 52 rfl) rfl (lv_at hl 3 rfl) ?_
            refine lv_iload hx hb (dk DX9_cut 53 rfl) (lv_at hl 4 rfl) ?_
            obtain ⟨uq27, mq25, hzq26, hF⟩ := bnd_ex hF
            refine r_callVv (As := [.int xq19, .int xq7, .int xq21]) (rest := []) C hR (C_Tx_addThingL l hl0 G xq19 xq7 xq21 mq20 _ _ hzq26) (by decide) (by decide) ob52 rfl wX9_62_4 rfl rfl (Nat.le_of_ble_eq_true rfl) hl.1 ⟨Nat.zero_le _, Nat.zero_le _⟩ (dk DX9_cut 54 rfl) (fun H locs hR => ?_)
            exact J92 mq25 _ _ ls (lv_sub hl [0, 1, 2, 4] rfl) hR hF
        have L34 : ∀ (nf : Nat) (xq29 : Int32) (mq28 : Mem) (H : Heap) (locs : List Loc) (ls : Array Slot), lv_has ls 6 [(0, .ref (G.2.1 + 52)), (1, .ref (G.2.1 + 1)), (2, .int a2), (3, .int xq7), (4, .int xq29), (5, .int xq19)] → Rp G mr0 N0 mq28 s H locs → F_Tx_cutL_L34 a2 xq19 k75_21 nf xq29 mq28 = some (v, m') → W p l e (rmD 2) s mid args below meth c H locs 0 0 (MQ below (QR G mr0 N0 none m') args s 0 0 (fun q => G.2.1 ≤ q)) (F0 mid 34 ls []) := by
          intro nf
          induction nf with
          | zero =>
            intro xq29 mq28 H locs ls hl hR hF
            rw [F_Tx_cutL_L34] at hF
            cases hF
          | succ nf ihq31 =>
            intro xq29 mq28 H locs ls hl hR hF
            rw [F_Tx_cutL_L34] at hF
            refine lv_iload hx hb (dk DX9_cut 24 rfl) (lv_at hl 5 rfl) ?_
            refine lv_iconst (v := (2 : Int32)) hx hb (dk DX9_cut 25 rfl) (by decide) ?_
            refine lv_icmp_eq (tgt := 75) hx hb (dk DX9_cut 26 rfl) (by decide) (fun c37 => ?_) (fun c37 => ?_)
            · have hF := if_t c37 hF
              exact J75 xq29 mq28 _ _ ls (lv_sub hl [0, 1, 2, 3, 4, 5] rfl) hR hF
            · have hF := if_f c37 hF
              refine lv_iload hx hb (dk DX9_cut 27 rfl) (lv_at hl 4 rfl) ?_
              refine lv_iload_n hx hb (dk DX9_cut 28 rfl) rfl (lv_at hl 2 rfl) ?_
              refine lv_icmp_ge (tgt := 75) hx hb (dk DX9_cut 29 rfl) (by decide) (fun c43 => ?_) (fun c43 => ?_)
              · have hF := if_t c43 hF
                exact J75 xq29 mq28 _ _ ls (lv_sub hl [0, 1, 2, 3, 4, 5] rfl) hR hF
              · have hF := if_f c43 hF
                refine lv_aload_n hx hb (dk DX9_cut 30 rfl) rfl (lv_at hl 1 rfl) ?_
                refine lv_iload hx hb (dk DX9_cut 31 rfl) (lv_at hl 4 rfl) ?_
                obtain ⟨hq32, hF⟩ := ckB_ex hF
                refine r_iald C hR ob1 hq32 (dk DX9_cut 32 rfl) ?_
                refine lv_topi (fun xq33 exq33 => ?_)
                have hF := lt_at exq33 hF
                obtain ⟨xq36, mq34, hzq35, hF⟩ := bnd_ex hF
                refine r_callSi (As := [.int xq33]) (rest := []) C hR (C_Tx_kindOf l hl0 G xq33 mq28 _ _ hzq35) (by decide) (by decide) wX9_58 rfl rfl (Nat.le_of_ble_eq_true rfl) hl.1 ⟨Nat.zero_le _, Nat.zero_le _⟩ (dk DX9_cut 33 rfl) (fun H locs hR => ?_)
                refine lv_iload hx hb (dk DX9_cut 34 rfl) (lv_at hl 5 rfl) ?_
                refine lv_icmp_ne (tgt := 75) hx hb (dk DX9_cut 35 rfl) (by decide) (fun c55 => ?_) (fun c55 => ?_)
                · have hF := if_f c55 hF
                  exact J75 xq29 mq34 _ _ ls (lv_sub hl [0, 1, 2, 3, 4, 5] rfl) hR hF
                · have hF := if_t c55 hF
                  refine lv_aload_n hx hb (dk DX9_cut 36 rfl) rfl (lv_at hl 0 rfl) ?_
                  refine gX9_9_4 C hR ob52 rf52_0 (dk DX9_cut 37 rfl) ?_
                  refine lv_iload hx hb (dk DX9_cut 38 rfl) (lv_at hl 4 rfl) ?_
                  refine lv_aload_n hx hb (dk DX9_cut 39 rfl) rfl (lv_at hl 1 rfl) ?_
                  refine lv_iload hx hb (dk DX9_cut 40 rfl) (lv_at hl 4 rfl) ?_
                  obtain ⟨hq37, hF⟩ := ckB_ex hF
                  refine r_iald C hR ob1 hq37 (dk DX9_cut 41 rfl) ?_
                  refine lv_topi (fun xq38 exq38 => ?_)
                  have hF := lt_at exq38 hF
                  obtain ⟨hq40, hF⟩ := ckB_ex hF
                  refine r_iast C hR ob53 hq40 (dk DX9_cut 42 rfl) (fun H locs hR => ?_)
                  obtain ⟨mq39, emq39, hF⟩ := lt_ex hF
                  have hR := Rp_at emq39 hR
                  obtain ⟨xq41, exq41, hF⟩ := lt_ex hF
                  refine lv_iinc (v := xq41) (lv' := [(4, .int xq41), (0, .ref (G.2.1 + 52)), (1, .ref (G.2.1 + 1)), (2, .int a2), (3, .int xq7), (5, .int xq19)]) hx hb (dk DX9_cut 43 rfl) hl (k := 4) rfl (by rw [exq41]; rfl) (by decide) rfl (fun ls hl => ?_)
                  refine lv_goto (tgt := 34) hx hb (dk DX9_cut 44 rfl) (by decide) ?_
                  exact ihq31 xq41 mq39 _ _ ls (lv_sub hl [1, 2, 3, 4, 0, 5] rfl) hR hF
        exact L34 1000000 xq14 mq17 _ _ ls (lv_sub hl [2, 3, 4, 5, 1, 0] rfl) hR hF
  exact L7 1000000 (0 : Int32) mq1 _ _ ls (lv_sub hl [1, 2, 3, 0] rfl) hR hF
set_option maxHeartbeats 4000000 in
set_option maxRecDepth 100000 in
theorem C_Tx_isAtL (l : Launch) (hl0 : l.stackTraces = false) (G : GG) (a1 : Int32) (m0 : Mem) (v : Bool) (m' : Mem) (hF : F_Tx_isAtL a1 m0 = some (v, m')) : Ct l G mr0 N0 yX9_isAt cX9_isAt 2 (some .boolean) 1 [.ref (G.2.1 + 52), .int a1] m0 (some (.int (b2i v))) m' := by
  refine Ct_of hl0 (by decide) (Nat.le_of_ble_eq_true rfl) ?_
  intro p e s mid args below meth c ls C hrt hl hR
  have hx := C.1.1
  have hb := C.1.2.1
  have hl : lv_has ls 2 [(0, .ref (G.2.1 + 52)), (1, .int a1)] := hl
  unfold F_Tx_isAtL at hF
  refine lv_aload_n hx hb (dk DX9_isAt 0 rfl) rfl (lv_at hl 0 rfl) ?_
  refine gX9_31_4 C hR ob52 (dk DX9_isAt 1 rfl) ?_
  refine lv_iconst (v := (-1 : Int32)) hx hb (dk DX9_isAt 2 rfl) (by decide) ?_
  refine lv_icmp_ne (tgt := 53) hx hb (dk DX9_isAt 3 rfl) (by decide) (fun c5 => ?_) (fun c5 => ?_)
  · have hF := if_f c5 hF
    refine lv_iconst (v := (0 : Int32)) hx hb (dk DX9_isAt 25 rfl) (by decide) ?_
    cases hF
    exact r_zret C hrt hR (dk DX9_isAt 26 rfl)
  · have hF := if_t c5 hF
    refine lv_aload_n hx hb (dk DX9_isAt 4 rfl) rfl (lv_at hl 0 rfl) ?_
    refine gX9_28_4 C hR ob52 (dk DX9_isAt 5 rfl) ?_
    refine lv_if_lt (tgt := 53) hx hb (dk DX9_isAt 6 rfl) (by decide) (fun c12 => ?_) (fun c12 => ?_)
    · have hF := if_t c12 hF
      refine lv_iconst (v := (0 : Int32)) hx hb (dk DX9_isAt 25 rfl) (by decide) ?_
      cases hF
      exact r_zret C hrt hR (dk DX9_isAt 26 rfl)
    · have hF := if_f c12 hF
      refine lv_aload_n hx hb (dk DX9_isAt 7 rfl) rfl (lv_at hl 0 rfl) ?_
      refine gX9_28_4 C hR ob52 (dk DX9_isAt 8 rfl) ?_
      refine lv_aload_n hx hb (dk DX9_isAt 9 rfl) rfl (lv_at hl 0 rfl) ?_
      refine gX9_24_4 C hR ob52 (dk DX9_isAt 10 rfl) ?_
      refine lv_icmp_ge (tgt := 53) hx hb (dk DX9_isAt 11 rfl) (by decide) (fun c23 => ?_) (fun c23 => ?_)
      · have hF := if_t c23 hF
        refine lv_iconst (v := (0 : Int32)) hx hb (dk DX9_isAt 25 rfl) (by decide) ?_
        cases hF
        exact r_zret C hrt hR (dk DX9_isAt 26 rfl)
      · have hF := if_f c23 hF
        refine lv_aload_n hx hb (dk DX9_isAt 12 rfl) rfl (lv_at hl 0 rfl) ?_
        refine gX9_28_4 C hR ob52 (dk DX9_isAt 13 rfl) ?_
        refine lv_sipush (v := (400 : Int32)) hx hb (dk DX9_isAt 14 rfl) (by decide) ?_
        refine lv_icmp_gt (tgt := 53) hx hb (dk DX9_isAt 15 rfl) (by decide) (fun c33 => ?_) (fun c33 => ?_)
        · have hF := if_t c33 hF
          refine lv_iconst (v := (0 : Int32)) hx hb (dk DX9_isAt 25 rfl) (by decide) ?_
          cases hF
          exact r_zret C hrt hR (dk DX9_isAt 26 rfl)
        · have hF := if_f c33 hF
          refine lv_aload_n hx hb (dk DX9_isAt 16 rfl) rfl (lv_at hl 0 rfl) ?_
          refine gX9_15_4 C hR ob52 rf52_1 (dk DX9_isAt 17 rfl) ?_
          refine lv_aload_n hx hb (dk DX9_isAt 18 rfl) rfl (lv_at hl 0 rfl) ?_
          refine gX9_28_4 C hR ob52 (dk DX9_isAt 19 rfl) ?_
          obtain ⟨hq1, hF⟩ := ckB_ex hF
          refine r_iald C hR ob54 hq1 (dk DX9_isAt 20 rfl) ?_
          refine lv_topi (fun xq2 exq2 => ?_)
          have hF := lt_at exq2 hF
          refine lv_iload_n hx hb (dk DX9_isAt 21 rfl) rfl (lv_at hl 1 rfl) ?_
          refine lv_icmp_ne (tgt := 53) hx hb (dk DX9_isAt 22 rfl) (by decide) (fun c46 => ?_) (fun c46 => ?_)
          · have hF := if_f c46 hF
            refine lv_iconst (v := (0 : Int32)) hx hb (dk DX9_isAt 25 rfl) (by decide) ?_
            cases hF
            exact r_zret C hrt hR (dk DX9_isAt 26 rfl)
          · have hF := if_t c46 hF
            refine lv_iconst (v := (1 : Int32)) hx hb (dk DX9_isAt 23 rfl) (by decide) ?_
            refine lv_goto (tgt := 54) hx hb (dk DX9_isAt 24 rfl) (by decide) ?_
            cases hF
            exact r_zret C hrt hR (dk DX9_isAt 26 rfl)
set_option maxHeartbeats 4000000 in
set_option maxRecDepth 100000 in
theorem C_Tx_setWrongL (l : Launch) (hl0 : l.stackTraces = false) (G : GG) (m0 : Mem) (v : Unit) (m' : Mem) (hF : F_Tx_setWrongL m0 = some (v, m')) : Ct l G mr0 N0 yX9_setWrong cX9_setWrong 1 none 1 [.ref (G.2.1 + 52)] m0 none m' := by
  refine Ct_of hl0 (by decide) (Nat.le_of_ble_eq_true rfl) ?_
  intro p e s mid args below meth c ls C hrt hl hR
  have hx := C.1.1
  have hb := C.1.2.1
  have hl : lv_has ls 1 [(0, .ref (G.2.1 + 52))] := hl
  unfold F_Tx_setWrongL at hF
  refine lv_aload_n hx hb (dk DX9_setWrong 0 rfl) rfl (lv_at hl 0 rfl) ?_
  refine gX9_31_4 C hR ob52 (dk DX9_setWrong 1 rfl) ?_
  refine lv_iconst (v := (-1 : Int32)) hx hb (dk DX9_setWrong 2 rfl) (by decide) ?_
  refine lv_icmp_ne (tgt := 38) hx hb (dk DX9_setWrong 3 rfl) (by decide) (fun c5 => ?_) (fun c5 => ?_)
  · have hF := if_f c5 hF
    cases hF
    exact r_vret C hrt hR (dk DX9_setWrong 18 rfl)
  · have hF := if_t c5 hF
    refine lv_aload_n hx hb (dk DX9_setWrong 4 rfl) rfl (lv_at hl 0 rfl) ?_
    refine gX9_28_4 C hR ob52 (dk DX9_setWrong 5 rfl) ?_
    refine lv_if_lt (tgt := 38) hx hb (dk DX9_setWrong 6 rfl) (by decide) (fun c12 => ?_) (fun c12 => ?_)
    · have hF := if_t c12 hF
      cases hF
      exact r_vret C hrt hR (dk DX9_setWrong 18 rfl)
    · have hF := if_f c12 hF
      refine lv_aload_n hx hb (dk DX9_setWrong 7 rfl) rfl (lv_at hl 0 rfl) ?_
      refine gX9_28_4 C hR ob52 (dk DX9_setWrong 8 rfl) ?_
      refine lv_sipush (v := (400 : Int32)) hx hb (dk DX9_setWrong 9 rfl) (by decide) ?_
      refine lv_icmp_gt (tgt := 38) hx hb (dk DX9_setWrong 10 rfl) (by decide) (fun c22 => ?_) (fun c22 => ?_)
      · have hF := if_t c22 hF
        cases hF
        exact r_vret C hrt hR (dk DX9_setWrong 18 rfl)
      · have hF := if_f c22 hF
        refine lv_aload_n hx hb (dk DX9_setWrong 11 rfl) rfl (lv_at hl 0 rfl) ?_
        refine lv_aload_n hx hb (dk DX9_setWrong 12 rfl) rfl (lv_at hl 0 rfl) ?_
        refine gX9_18_4 C hR ob52 rf52_2 (dk DX9_setWrong 13 rfl) ?_
        refine lv_aload_n hx hb (dk DX9_setWrong 14 rfl) rfl (lv_at hl 0 rfl) ?_
        refine gX9_28_4 C hR ob52 (dk DX9_setWrong 15 rfl) ?_
        obtain ⟨hq1, hF⟩ := ckB_ex hF
        refine r_iald C hR ob55 hq1 (dk DX9_setWrong 16 rfl) ?_
        refine lv_topi (fun xq2 exq2 => ?_)
        have hF := lt_at exq2 hF
        refine pX9_31_4 (x := xq2) C hR ob52 (dk DX9_setWrong 17 rfl) (fun H locs hR => ?_)
        obtain ⟨mq3, emq3, hF⟩ := lt_ex hF
        have hR := Rp_at emq3 hR
        cases hF
        exact r_vret C hrt hR (dk DX9_setWrong 18 rfl)
set_option maxHeartbeats 4000000 in
set_option maxRecDepth 100000 in
theorem C_Tx_byteAtL (l : Launch) (hl0 : l.stackTraces = false) (G : GG) (a1 : Int32) (m0 : Mem) (v : Int32) (m' : Mem) (hF : F_Tx_byteAtL a1 m0 = some (v, m')) : Ct l G mr0 N0 yX9_byteAt cX9_byteAt 2 (some .int) 1 [.ref (G.2.1 + 52), .int a1] m0 (some (.int v)) m' := by
  refine Ct_of hl0 (by decide) (Nat.le_of_ble_eq_true rfl) ?_
  intro p e s mid args below meth c ls C hrt hl hR
  have hx := C.1.1
  have hb := C.1.2.1
  have hl : lv_has ls 2 [(0, .ref (G.2.1 + 52)), (1, .int a1)] := hl
  unfold F_Tx_byteAtL at hF
  refine lv_iload_n hx hb (dk DX9_byteAt 0 rfl) rfl (lv_at hl 1 rfl) ?_
  refine lv_if_lt (tgt := 11) hx hb (dk DX9_byteAt 1 rfl) (by decide) (fun c1 => ?_) (fun c1 => ?_)
  · have hF := if_t c1 hF
    refine lv_iconst (v := (-1 : Int32)) hx hb (dk DX9_byteAt 5 rfl) (by decide) ?_
    refine lv_goto (tgt := 21) hx hb (dk DX9_byteAt 6 rfl) (by decide) ?_
    cases hF
    exact r_iret C hrt hR (dk DX9_byteAt 11 rfl)
  · have hF := if_f c1 hF
    refine lv_iload_n hx hb (dk DX9_byteAt 2 rfl) rfl (lv_at hl 1 rfl) ?_
    refine lv_sipush (v := (400 : Int32)) hx hb (dk DX9_byteAt 3 rfl) (by decide) ?_
    refine lv_icmp_lt (tgt := 15) hx hb (dk DX9_byteAt 4 rfl) (by decide) (fun c8 => ?_) (fun c8 => ?_)
    · have hF := if_t c8 hF
      refine lv_aload_n hx hb (dk DX9_byteAt 7 rfl) rfl (lv_at hl 0 rfl) ?_
      refine gX9_9_4 C hR ob52 rf52_0 (dk DX9_byteAt 8 rfl) ?_
      refine lv_iload_n hx hb (dk DX9_byteAt 9 rfl) rfl (lv_at hl 1 rfl) ?_
      obtain ⟨hq1, hF⟩ := ckB_ex hF
      refine r_iald C hR ob53 hq1 (dk DX9_byteAt 10 rfl) ?_
      refine lv_topi (fun xq2 exq2 => ?_)
      have hF := lt_at exq2 hF
      cases hF
      exact r_iret C hrt hR (dk DX9_byteAt 11 rfl)
    · have hF := if_f c8 hF
      refine lv_iconst (v := (-1 : Int32)) hx hb (dk DX9_byteAt 5 rfl) (by decide) ?_
      refine lv_goto (tgt := 21) hx hb (dk DX9_byteAt 6 rfl) (by decide) ?_
      cases hF
      exact r_iret C hrt hR (dk DX9_byteAt 11 rfl)
set_option maxHeartbeats 4000000 in
set_option maxRecDepth 100000 in
theorem C_Tx_takesWordL (l : Launch) (hl0 : l.stackTraces = false) (G : GG) (tx1 : String) (m0 : Mem) (htx_tx1 : tx1 ∈ strL.map (fun q => q.2.2)) (v : Bool) (m' : Mem) (hF : F_Tx_takesWordL tx1 m0 = some (v, m')) : Ct l G mr0 N0 yX9_takesWord cX9_takesWord 3 (some .boolean) 9 [.ref (G.2.1 + 52), .ref (G.2.2.2.2.2.2 tx1)] m0 (some (.int (b2i v))) m' := by
  refine Ct_of hl0 (by decide) (Nat.le_of_ble_eq_true rfl) ?_
  intro p e s mid args below meth c ls C hrt hl hR
  have hx := C.1.1
  have hb := C.1.2.1
  have hl : lv_has ls 3 [(0, .ref (G.2.1 + 52)), (1, .ref (G.2.2.2.2.2.2 tx1))] := hl
  unfold F_Tx_takesWordL at hF
  refine lv_aload_n hx hb (dk DX9_takesWord 0 rfl) rfl (lv_at hl 0 rfl) ?_
  refine lv_iconst (v := (0 : Int32)) hx hb (dk DX9_takesWord 1 rfl) (by decide) ?_
  obtain ⟨zq3, mq1, hzq2, hF⟩ := bnd_ex hF
  refine r_callVi (As := [.int (0 : Int32)]) (rest := []) C hR (C_Tx_isAtL l hl0 G (0 : Int32) m0 _ _ hzq2) (by decide) (by decide) ob52 rfl wX9_44_4 rfl rfl (Nat.le_of_ble_eq_true rfl) hl.1 ⟨Nat.zero_le _, Nat.zero_le _⟩ (dk DX9_takesWord 2 rfl) (fun H locs hR => ?_)
  refine z_ifeq (tgt := 34) hx hb (dk DX9_takesWord 3 rfl) (by decide) (fun c5 => ?_) (fun c5 => ?_)
  · have hF := if_f c5 hF
    refine lv_iconst (v := (0 : Int32)) hx hb (dk DX9_takesWord 18 rfl) (by decide) ?_
    cases hF
    exact r_zret C hrt hR (dk DX9_takesWord 19 rfl)
  · have hF := if_t c5 hF
    refine lv_aload_n hx hb (dk DX9_takesWord 4 rfl) rfl (lv_at hl 0 rfl) ?_
    refine gX9_21_4 C hR ob52 rf52_3 (dk DX9_takesWord 5 rfl) ?_
    refine lv_aload_n hx hb (dk DX9_takesWord 6 rfl) rfl (lv_at hl 0 rfl) ?_
    refine gX9_28_4 C hR ob52 (dk DX9_takesWord 7 rfl) ?_
    obtain ⟨hq4, hF⟩ := ckB_ex hF
    refine r_iald C hR ob56 hq4 (dk DX9_takesWord 8 rfl) ?_
    refine lv_topi (fun xq5 exq5 => ?_)
    have hF := lt_at exq5 hF
    refine lv_aload_n hx hb (dk DX9_takesWord 9 rfl) rfl (lv_at hl 0 rfl) ?_
    refine gX9_18_4 C hR ob52 rf52_2 (dk DX9_takesWord 10 rfl) ?_
    refine lv_aload_n hx hb (dk DX9_takesWord 11 rfl) rfl (lv_at hl 0 rfl) ?_
    refine gX9_28_4 C hR ob52 (dk DX9_takesWord 12 rfl) ?_
    obtain ⟨hq6, hF⟩ := ckB_ex hF
    refine r_iald C hR ob55 hq6 (dk DX9_takesWord 13 rfl) ?_
    refine lv_topi (fun xq7 exq7 => ?_)
    have hF := lt_at exq7 hF
    refine lv_isub hx hb (dk DX9_takesWord 14 rfl) ?_
    refine lv_aload_n hx hb (dk DX9_takesWord 15 rfl) rfl (lv_at hl 1 rfl) ?_
    refine r_slen C hR htx_tx1 (gd q831 rfl) (by decide) (Nat.le_of_ble_eq_true rfl) hl.1 ⟨Nat.zero_le _, Nat.zero_le _⟩ (dk DX9_takesWord 16 rfl) (fun H locs hR => ?_)
    refine lv_icmp_eq (tgt := 36) hx hb (dk DX9_takesWord 17 rfl) (by decide) (fun c31 => ?_) (fun c31 => ?_)
    · have hF := if_t c31 hF
      refine lv_iconst (v := (0 : Int32)) hx hb (dk DX9_takesWord 20 rfl) (by decide) ?_
      refine lv_istore_n (lv' := [(2, .int (0 : Int32)), (0, .ref (G.2.1 + 52)), (1, .ref (G.2.2.2.2.2.2 tx1))]) hx hb (dk DX9_takesWord 21 rfl) rfl hl (by decide) rfl (fun ls hl => ?_)
      obtain ⟨k77_8, ek77_8, hF⟩ := lt_ex hF
      have J77 : ∀ (mq8 : Mem) (H : Heap) (locs : List Loc) (ls : Array Slot), lv_has ls 3 [(0, .ref (G.2.1 + 52))] → Rp G mr0 N0 mq8 s H locs → k77_8  mq8 = some (v, m') → W p l e (rmD 9) s mid args below meth c H locs 0 0 (MQ below (QR G mr0 N0 (some (.int (b2i v))) m') args s 0 0 (fun q => G.2.1 ≤ q)) (F0 mid 77 ls []) := by
        intro  mq8 H locs ls hl hR hF
        rw [ek77_8] at hF
        refine lv_aload_n hx hb (dk DX9_takesWord 43 rfl) rfl (lv_at hl 0 rfl) ?_
        refine lv_dup hx hb (dk DX9_takesWord 44 rfl) rfl ?_
        refine gX9_28_4 C hR ob52 (dk DX9_takesWord 45 rfl) ?_
        refine lv_iconst (v := (1 : Int32)) hx hb (dk DX9_takesWord 46 rfl) (by decide) ?_
        refine lv_iadd hx hb (dk DX9_takesWord 47 rfl) ?_
        refine pX9_28_4 (x := (gI mq8 52 5) + (1 : Int32)) C hR ob52 (dk DX9_takesWord 48 rfl) (fun H locs hR => ?_)
        obtain ⟨mq9, emq9, hF⟩ := lt_ex hF
        have hR := Rp_at emq9 hR
        refine lv_iconst (v := (1 : Int32)) hx hb (dk DX9_takesWord 49 rfl) (by decide) ?_
        cases hF
        exact r_zret C hrt hR (dk DX9_takesWord 50 rfl)
      have L38 : ∀ (nf : Nat) (xq11 : Int32) (mq10 : Mem) (H : Heap) (locs : List Loc) (ls : Array Slot), lv_has ls 3 [(0, .ref (G.2.1 + 52)), (1, .ref (G.2.2.2.2.2.2 tx1)), (2, .int xq11)] → Rp G mr0 N0 mq10 s H locs → F_Tx_takesWordL_L38 tx1 k77_8 nf xq11 mq10 = some (v, m') → W p l e (rmD 9) s mid args below meth c H locs 0 0 (MQ below (QR G mr0 N0 (some (.int (b2i v))) m') args s 0 0 (fun q => G.2.1 ≤ q)) (F0 mid 38 ls []) := by
        intro nf
        induction nf with
        | zero =>
          intro xq11 mq10 H locs ls hl hR hF
          rw [F_Tx_takesWordL_L38] at hF
          cases hF
        | succ nf ihq13 =>
          intro xq11 mq10 H locs ls hl hR hF
          rw [F_Tx_takesWordL_L38] at hF
          refine lv_iload_n hx hb (dk DX9_takesWord 22 rfl) rfl (lv_at hl 2 rfl) ?_
          refine lv_aload_n hx hb (dk DX9_takesWord 23 rfl) rfl (lv_at hl 1 rfl) ?_
          refine r_slen C hR htx_tx1 (gd q831 rfl) (by decide) (Nat.le_of_ble_eq_true rfl) hl.1 ⟨Nat.zero_le _, Nat.zero_le _⟩ (dk DX9_takesWord 24 rfl) (fun H locs hR => ?_)
          refine lv_icmp_ge (tgt := 77) hx hb (dk DX9_takesWord 25 rfl) (by decide) (fun c43 => ?_) (fun c43 => ?_)
          · have hF := if_t c43 hF
            exact J77 mq10 _ _ ls (lv_sub hl [0] rfl) hR hF
          · have hF := if_f c43 hF
            refine lv_aload_n hx hb (dk DX9_takesWord 26 rfl) rfl (lv_at hl 0 rfl) ?_
            refine lv_aload_n hx hb (dk DX9_takesWord 27 rfl) rfl (lv_at hl 0 rfl) ?_
            refine gX9_18_4 C hR ob52 rf52_2 (dk DX9_takesWord 28 rfl) ?_
            refine lv_aload_n hx hb (dk DX9_takesWord 29 rfl) rfl (lv_at hl 0 rfl) ?_
            refine gX9_28_4 C hR ob52 (dk DX9_takesWord 30 rfl) ?_
            obtain ⟨hq14, hF⟩ := ckB_ex hF
            refine r_iald C hR ob55 hq14 (dk DX9_takesWord 31 rfl) ?_
            refine lv_topi (fun xq15 exq15 => ?_)
            have hF := lt_at exq15 hF
            refine lv_iload_n hx hb (dk DX9_takesWord 32 rfl) rfl (lv_at hl 2 rfl) ?_
            refine lv_iadd hx hb (dk DX9_takesWord 33 rfl) ?_
            obtain ⟨xq18, mq16, hzq17, hF⟩ := bnd_ex hF
            refine r_callVi (As := [.int (xq15 + xq11)]) (rest := []) C hR (C_Tx_byteAtL l hl0 G (xq15 + xq11) mq10 _ _ hzq17) (by decide) (by decide) ob52 rfl wX9_69_4 rfl rfl (Nat.le_of_ble_eq_true rfl) hl.1 ⟨Nat.zero_le _, Nat.zero_le _⟩ (dk DX9_takesWord 34 rfl) (fun H locs hR => ?_)
            refine lv_aload_n hx hb (dk DX9_takesWord 35 rfl) rfl (lv_at hl 1 rfl) ?_
            refine lv_iload_n hx hb (dk DX9_takesWord 36 rfl) rfl (lv_at hl 2 rfl) ?_
            obtain ⟨hq19, hF⟩ := ckB_ex hF
            refine r_schar C hR htx_tx1 hq19 (gd q845 rfl) (by decide) (Nat.le_of_ble_eq_true rfl) hl.1 ⟨Nat.zero_le _, Nat.zero_le _⟩ (dk DX9_takesWord 37 rfl) (fun H locs hR => ?_)
            refine lv_icmp_eq (tgt := 71) hx hb (dk DX9_takesWord 38 rfl) (by decide) (fun c66 => ?_) (fun c66 => ?_)
            · have hF := if_t c66 hF
              obtain ⟨xq20, exq20, hF⟩ := lt_ex hF
              refine lv_iinc (v := xq20) (lv' := [(2, .int xq20), (0, .ref (G.2.1 + 52)), (1, .ref (G.2.2.2.2.2.2 tx1))]) hx hb (dk DX9_takesWord 41 rfl) hl (k := 2) rfl (by rw [exq20]; rfl) (by decide) rfl (fun ls hl => ?_)
              refine lv_goto (tgt := 38) hx hb (dk DX9_takesWord 42 rfl) (by decide) ?_
              exact ihq13 xq20 mq16 _ _ ls (lv_sub hl [1, 2, 0] rfl) hR hF
            · have hF := if_f c66 hF
              refine lv_iconst (v := (0 : Int32)) hx hb (dk DX9_takesWord 39 rfl) (by decide) ?_
              cases hF
              exact r_zret C hrt hR (dk DX9_takesWord 40 rfl)
      exact L38 1000000 (0 : Int32) mq1 _ _ ls (lv_sub hl [1, 2, 0] rfl) hR hF
    · have hF := if_f c31 hF
      refine lv_iconst (v := (0 : Int32)) hx hb (dk DX9_takesWord 18 rfl) (by decide) ?_
      cases hF
      exact r_zret C hrt hR (dk DX9_takesWord 19 rfl)
set_option maxHeartbeats 4000000 in
set_option maxRecDepth 100000 in
theorem C_Tx_mustTakeL (l : Launch) (hl0 : l.stackTraces = false) (G : GG) (tx1 : String) (m0 : Mem) (htx_tx1 : tx1 ∈ strL.map (fun q => q.2.2)) (v : Unit) (m' : Mem) (hF : F_Tx_mustTakeL tx1 m0 = some (v, m')) : Ct l G mr0 N0 yX9_mustTake cX9_mustTake 2 none 10 [.ref (G.2.1 + 52), .ref (G.2.2.2.2.2.2 tx1)] m0 none m' := by
  refine Ct_of hl0 (by decide) (Nat.le_of_ble_eq_true rfl) ?_
  intro p e s mid args below meth c ls C hrt hl hR
  have hx := C.1.1
  have hb := C.1.2.1
  have hl : lv_has ls 2 [(0, .ref (G.2.1 + 52)), (1, .ref (G.2.2.2.2.2.2 tx1))] := hl
  unfold F_Tx_mustTakeL at hF
  refine lv_aload_n hx hb (dk DX9_mustTake 0 rfl) rfl (lv_at hl 0 rfl) ?_
  refine lv_aload_n hx hb (dk DX9_mustTake 1 rfl) rfl (lv_at hl 1 rfl) ?_
  obtain ⟨zq3, mq1, hzq2, hF⟩ := bnd_ex hF
  refine r_callVi (As := [.ref (G.2.2.2.2.2.2 tx1)]) (rest := []) C hR (C_Tx_takesWordL l hl0 G tx1 m0 htx_tx1 _ _ hzq2) (by decide) (by decide) ob52 rfl wX9_82_4 rfl rfl (Nat.le_of_ble_eq_true rfl) hl.1 ⟨Nat.zero_le _, Nat.zero_le _⟩ (dk DX9_mustTake 2 rfl) (fun H locs hR => ?_)
  refine z_ifne (tgt := 12) hx hb (dk DX9_mustTake 3 rfl) (by decide) (fun c5 => ?_) (fun c5 => ?_)
  · have hF := if_t c5 hF
    cases hF
    exact r_vret C hrt hR (dk DX9_mustTake 6 rfl)
  · have hF := if_f c5 hF
    refine lv_aload_n hx hb (dk DX9_mustTake 4 rfl) rfl (lv_at hl 0 rfl) ?_
    obtain ⟨uq6, mq4, hzq5, hF⟩ := bnd_ex hF
    refine r_callVv (As := []) (rest := []) C hR (C_Tx_setWrongL l hl0 G mq1 _ _ hzq5) (by decide) (by decide) ob52 rfl wX9_55_4 rfl rfl (Nat.le_of_ble_eq_true rfl) hl.1 ⟨Nat.zero_le _, Nat.zero_le _⟩ (dk DX9_mustTake 5 rfl) (fun H locs hR => ?_)
    cases hF
    exact r_vret C hrt hR (dk DX9_mustTake 6 rfl)
set_option maxHeartbeats 4000000 in
set_option maxRecDepth 100000 in
theorem C_Tx_numberL (l : Launch) (hl0 : l.stackTraces = false) (G : GG) (a1 : Int32) (a2 : Int32) (m0 : Mem) (v : Int32) (m' : Mem) (hF : F_Tx_numberL a1 a2 m0 = some (v, m')) : Ct l G mr0 N0 yX9_number cX9_number 5 (some .int) 2 [.ref (G.2.1 + 52), .int a1, .int a2] m0 (some (.int v)) m' := by
  refine Ct_of hl0 (by decide) (Nat.le_of_ble_eq_true rfl) ?_
  intro p e s mid args below meth c ls C hrt hl hR
  have hx := C.1.1
  have hb := C.1.2.1
  have hl : lv_has ls 5 [(0, .ref (G.2.1 + 52)), (1, .int a1), (2, .int a2)] := hl
  unfold F_Tx_numberL at hF
  refine lv_aload_n hx hb (dk DX9_number 0 rfl) rfl (lv_at hl 0 rfl) ?_
  refine lv_iconst (v := (1 : Int32)) hx hb (dk DX9_number 1 rfl) (by decide) ?_
  obtain ⟨zq3, mq1, hzq2, hF⟩ := bnd_ex hF
  refine r_callVi (As := [.int (1 : Int32)]) (rest := []) C hR (C_Tx_isAtL l hl0 G (1 : Int32) m0 _ _ hzq2) (by decide) (by decide) ob52 rfl wX9_44_4 rfl rfl (Nat.le_of_ble_eq_true rfl) hl.1 ⟨Nat.zero_le _, Nat.zero_le _⟩ (dk DX9_number 2 rfl) (fun H locs hR => ?_)
  refine z_ifne (tgt := 14) hx hb (dk DX9_number 3 rfl) (by decide) (fun c5 => ?_) (fun c5 => ?_)
  · have hF := if_t c5 hF
    refine lv_iconst (v := (0 : Int32)) hx hb (dk DX9_number 8 rfl) (by decide) ?_
    refine lv_istore_n (lv' := [(3, .int (0 : Int32)), (0, .ref (G.2.1 + 52)), (1, .int a1), (2, .int a2)]) hx hb (dk DX9_number 9 rfl) rfl hl (by decide) rfl (fun ls hl => ?_)
    refine lv_aload_n hx hb (dk DX9_number 10 rfl) rfl (lv_at hl 1 rfl) ?_
    refine gX9_18_4 C hR ob52 rf52_2 (dk DX9_number 11 rfl) ?_
    refine lv_aload_n hx hb (dk DX9_number 12 rfl) rfl (lv_at hl 1 rfl) ?_
    refine gX9_28_4 C hR ob52 (dk DX9_number 13 rfl) ?_
    obtain ⟨hq4, hF⟩ := ckB_ex hF
    refine r_iald C hR ob55 hq4 (dk DX9_number 14 rfl) ?_
    refine lv_topi (fun xq5 exq5 => ?_)
    have hF := lt_at exq5 hF
    refine lv_istore (lv' := [(4, .int xq5), (3, .int (0 : Int32)), (0, .ref (G.2.1 + 52)), (1, .int a1), (2, .int a2)]) hx hb (dk DX9_number 15 rfl) hl (by decide) rfl (fun ls hl => ?_)
    obtain ⟨k78_7, ek78_7, hF⟩ := lt_ex hF
    have J78 : ∀ (xq7 : Int32) (mq6 : Mem) (H : Heap) (locs : List Loc) (ls : Array Slot), lv_has ls 5 [(0, .ref (G.2.1 + 52)), (1, .int a1), (2, .int a2), (3, .int xq7)] → Rp G mr0 N0 mq6 s H locs → k78_7 xq7 mq6 = some (v, m') → W p l e (rmD 2) s mid args below meth c H locs 0 0 (MQ below (QR G mr0 N0 (some (.int v)) m') args s 0 0 (fun q => G.2.1 ≤ q)) (F0 mid 78 ls []) := by
      intro xq7 mq6 H locs ls hl hR hF
      rw [ek78_7] at hF
      refine lv_aload_n hx hb (dk DX9_number 44 rfl) rfl (lv_at hl 0 rfl) ?_
      refine gX9_21_4 C hR ob52 rf52_3 (dk DX9_number 45 rfl) ?_
      refine lv_aload_n hx hb (dk DX9_number 46 rfl) rfl (lv_at hl 0 rfl) ?_
      refine gX9_28_4 C hR ob52 (dk DX9_number 47 rfl) ?_
      obtain ⟨hq8, hF⟩ := ckB_ex hF
      refine r_iald C hR ob56 hq8 (dk DX9_number 48 rfl) ?_
      refine lv_topi (fun xq9 exq9 => ?_)
      have hF := lt_at exq9 hF
      refine lv_aload_n hx hb (dk DX9_number 49 rfl) rfl (lv_at hl 0 rfl) ?_
      refine gX9_18_4 C hR ob52 rf52_2 (dk DX9_number 50 rfl) ?_
      refine lv_aload_n hx hb (dk DX9_number 51 rfl) rfl (lv_at hl 0 rfl) ?_
      refine gX9_28_4 C hR ob52 (dk DX9_number 52 rfl) ?_
      obtain ⟨hq10, hF⟩ := ckB_ex hF
      refine r_iald C hR ob55 hq10 (dk DX9_number 53 rfl) ?_
      refine lv_topi (fun xq11 exq11 => ?_)
      have hF := lt_at exq11 hF
      refine lv_isub hx hb (dk DX9_number 54 rfl) ?_
      refine lv_iconst (v := (3 : Int32)) hx hb (dk DX9_number 55 rfl) (by decide) ?_
      obtain ⟨k111_12, ek111_12, hF⟩ := lt_ex hF
      have J111 : ∀ (mq12 : Mem) (H : Heap) (locs : List Loc) (ls : Array Slot), lv_has ls 5 [(0, .ref (G.2.1 + 52)), (1, .int a1)] → Rp G mr0 N0 mq12 s H locs → k111_12  mq12 = some (v, m') → W p l e (rmD 2) s mid args below meth c H locs 0 0 (MQ below (QR G mr0 N0 (some (.int v)) m') args s 0 0 (fun q => G.2.1 ≤ q)) (F0 mid 111 ls []) := by
        intro  mq12 H locs ls hl hR hF
        rw [ek111_12] at hF
        refine lv_aload_n hx hb (dk DX9_number 63 rfl) rfl (lv_at hl 0 rfl) ?_
        obtain ⟨uq15, mq13, hzq14, hF⟩ := bnd_ex hF
        refine r_callVv (As := []) (rest := []) C hR (C_Tx_setWrongL l hl0 G mq12 _ _ hzq14) (by decide) (by decide) ob52 rfl wX9_55_4 rfl rfl (Nat.le_of_ble_eq_true rfl) hl.1 ⟨Nat.zero_le _, Nat.zero_le _⟩ (dk DX9_number 64 rfl) (fun H locs hR => ?_)
        refine lv_iload_n hx hb (dk DX9_number 65 rfl) rfl (lv_at hl 1 rfl) ?_
        cases hF
        exact r_iret C hrt hR (dk DX9_number 66 rfl)
      refine lv_icmp_gt (tgt := 111) hx hb (dk DX9_number 56 rfl) (by decide) (fun c98 => ?_) (fun c98 => ?_)
      · have hF := if_t c98 hF
        exact J111 mq6 _ _ ls (lv_sub hl [0, 1] rfl) hR hF
      · have hF := if_f c98 hF
        refine lv_iload_n hx hb (dk DX9_number 57 rfl) rfl (lv_at hl 3 rfl) ?_
        refine lv_iload_n hx hb (dk DX9_number 58 rfl) rfl (lv_at hl 1 rfl) ?_
        refine lv_icmp_lt (tgt := 111) hx hb (dk DX9_number 59 rfl) (by decide) (fun c103 => ?_) (fun c103 => ?_)
        · have hF := if_t c103 hF
          exact J111 mq6 _ _ ls (lv_sub hl [0, 1] rfl) hR hF
        · have hF := if_f c103 hF
          refine lv_iload_n hx hb (dk DX9_number 60 rfl) rfl (lv_at hl 3 rfl) ?_
          refine lv_iload_n hx hb (dk DX9_number 61 rfl) rfl (lv_at hl 2 rfl) ?_
          refine lv_icmp_le (tgt := 117) hx hb (dk DX9_number 62 rfl) (by decide) (fun c108 => ?_) (fun c108 => ?_)
          · have hF := if_t c108 hF
            refine lv_aload_n hx hb (dk DX9_number 67 rfl) rfl (lv_at hl 0 rfl) ?_
            refine lv_dup hx hb (dk DX9_number 68 rfl) rfl ?_
            refine gX9_28_4 C hR ob52 (dk DX9_number 69 rfl) ?_
            refine lv_iconst (v := (1 : Int32)) hx hb (dk DX9_number 70 rfl) (by decide) ?_
            refine lv_iadd hx hb (dk DX9_number 71 rfl) ?_
            refine pX9_28_4 (x := (gI mq6 52 5) + (1 : Int32)) C hR ob52 (dk DX9_number 72 rfl) (fun H locs hR => ?_)
            obtain ⟨mq16, emq16, hF⟩ := lt_ex hF
            have hR := Rp_at emq16 hR
            refine lv_iload_n hx hb (dk DX9_number 73 rfl) rfl (lv_at hl 3 rfl) ?_
            cases hF
            exact r_iret C hrt hR (dk DX9_number 74 rfl)
          · have hF := if_f c108 hF
            exact J111 mq6 _ _ ls (lv_sub hl [0, 1] rfl) hR hF
    have L27 : ∀ (nf : Nat) (xq18 : Int32) (xq19 : Int32) (mq17 : Mem) (H : Heap) (locs : List Loc) (ls : Array Slot), lv_has ls 5 [(0, .ref (G.2.1 + 52)), (1, .int a1), (2, .int a2), (3, .int xq18), (4, .int xq19)] → Rp G mr0 N0 mq17 s H locs → F_Tx_numberL_L27 k78_7 nf xq18 xq19 mq17 = some (v, m') → W p l e (rmD 2) s mid args below meth c H locs 0 0 (MQ below (QR G mr0 N0 (some (.int v)) m') args s 0 0 (fun q => G.2.1 ≤ q)) (F0 mid 27 ls []) := by
      intro nf
      induction nf with
      | zero =>
        intro xq18 xq19 mq17 H locs ls hl hR hF
        rw [F_Tx_numberL_L27] at hF
        cases hF
      | succ nf ihq21 =>
        intro xq18 xq19 mq17 H locs ls hl hR hF
        rw [F_Tx_numberL_L27] at hF
        refine lv_iload hx hb (dk DX9_number 16 rfl) (lv_at hl 4 rfl) ?_
        refine lv_aload_n hx hb (dk DX9_number 17 rfl) rfl (lv_at hl 0 rfl) ?_
        refine gX9_21_4 C hR ob52 rf52_3 (dk DX9_number 18 rfl) ?_
        refine lv_aload_n hx hb (dk DX9_number 19 rfl) rfl (lv_at hl 0 rfl) ?_
        refine gX9_28_4 C hR ob52 (dk DX9_number 20 rfl) ?_
        obtain ⟨hq22, hF⟩ := ckB_ex hF
        refine r_iald C hR ob56 hq22 (dk DX9_number 21 rfl) ?_
        refine lv_topi (fun xq23 exq23 => ?_)
        have hF := lt_at exq23 hF
        refine lv_icmp_ge (tgt := 78) hx hb (dk DX9_number 22 rfl) (by decide) (fun c38 => ?_) (fun c38 => ?_)
        · have hF := if_t c38 hF
          exact J78 xq18 mq17 _ _ ls (lv_sub hl [0, 1, 2, 3] rfl) hR hF
        · have hF := if_f c38 hF
          refine lv_iload hx hb (dk DX9_number 23 rfl) (lv_at hl 4 rfl) ?_
          refine lv_aload_n hx hb (dk DX9_number 24 rfl) rfl (lv_at hl 0 rfl) ?_
          refine gX9_18_4 C hR ob52 rf52_2 (dk DX9_number 25 rfl) ?_
          refine lv_aload_n hx hb (dk DX9_number 26 rfl) rfl (lv_at hl 0 rfl) ?_
          refine gX9_28_4 C hR ob52 (dk DX9_number 27 rfl) ?_
          obtain ⟨hq24, hF⟩ := ckB_ex hF
          refine r_iald C hR ob55 hq24 (dk DX9_number 28 rfl) ?_
          refine lv_topi (fun xq25 exq25 => ?_)
          have hF := lt_at exq25 hF
          refine lv_iconst (v := (3 : Int32)) hx hb (dk DX9_number 29 rfl) (by decide) ?_
          refine lv_iadd hx hb (dk DX9_number 30 rfl) ?_
          refine lv_icmp_ge (tgt := 78) hx hb (dk DX9_number 31 rfl) (by decide) (fun c54 => ?_) (fun c54 => ?_)
          · have hF := if_t c54 hF
            exact J78 xq18 mq17 _ _ ls (lv_sub hl [0, 1, 2, 3] rfl) hR hF
          · have hF := if_f c54 hF
            refine lv_iload_n hx hb (dk DX9_number 32 rfl) rfl (lv_at hl 3 rfl) ?_
            refine lv_bipush (v := (10 : Int32)) hx hb (dk DX9_number 33 rfl) (by decide) ?_
            refine lv_imul hx hb (dk DX9_number 34 rfl) ?_
            refine lv_aload_n hx hb (dk DX9_number 35 rfl) rfl (lv_at hl 0 rfl) ?_
            refine lv_iload hx hb (dk DX9_number 36 rfl) (lv_at hl 4 rfl) ?_
            obtain ⟨xq28, mq26, hzq27, hF⟩ := bnd_ex hF
            refine r_callVi (As := [.int xq19]) (rest := [.int (xq18 * (10 : Int32))]) C hR (C_Tx_byteAtL l hl0 G xq19 mq17 _ _ hzq27) (by decide) (by decide) ob52 rfl wX9_69_4 rfl rfl (Nat.le_of_ble_eq_true rfl) hl.1 ⟨Nat.zero_le _, Nat.zero_le _⟩ (dk DX9_number 37 rfl) (fun H locs hR => ?_)
            refine lv_iadd hx hb (dk DX9_number 38 rfl) ?_
            refine lv_bipush (v := (48 : Int32)) hx hb (dk DX9_number 39 rfl) (by decide) ?_
            refine lv_isub hx hb (dk DX9_number 40 rfl) ?_
            refine lv_topi (fun xq29 exq29 => ?_)
            have hF := lt_at exq29 hF
            refine lv_istore_n (lv' := [(3, .int xq29), (0, .ref (G.2.1 + 52)), (1, .int a1), (2, .int a2), (4, .int xq19)]) hx hb (dk DX9_number 41 rfl) rfl hl (by decide) rfl (fun ls hl => ?_)
            obtain ⟨xq30, exq30, hF⟩ := lt_ex hF
            refine lv_iinc (v := xq30) (lv' := [(4, .int xq30), (3, .int xq29), (0, .ref (G.2.1 + 52)), (1, .int a1), (2, .int a2)]) hx hb (dk DX9_number 42 rfl) hl (k := 4) rfl (by rw [exq30]; rfl) (by decide) rfl (fun ls hl => ?_)
            refine lv_goto (tgt := 27) hx hb (dk DX9_number 43 rfl) (by decide) ?_
            exact ihq21 xq29 xq30 mq26 _ _ ls (lv_sub hl [2, 3, 4, 1, 0] rfl) hR hF
    exact L27 1000000 (0 : Int32) xq5 mq1 _ _ ls (lv_sub hl [2, 3, 4, 1, 0] rfl) hR hF
  · have hF := if_f c5 hF
    refine lv_aload_n hx hb (dk DX9_number 4 rfl) rfl (lv_at hl 0 rfl) ?_
    obtain ⟨uq33, mq31, hzq32, hF⟩ := bnd_ex hF
    refine r_callVv (As := []) (rest := []) C hR (C_Tx_setWrongL l hl0 G mq1 _ _ hzq32) (by decide) (by decide) ob52 rfl wX9_55_4 rfl rfl (Nat.le_of_ble_eq_true rfl) hl.1 ⟨Nat.zero_le _, Nat.zero_le _⟩ (dk DX9_number 5 rfl) (fun H locs hR => ?_)
    refine lv_iload_n hx hb (dk DX9_number 6 rfl) rfl (lv_at hl 1 rfl) ?_
    cases hF
    exact r_iret C hrt hR (dk DX9_number 7 rfl)
set_option maxHeartbeats 4000000 in
set_option maxRecDepth 100000 in
theorem C_Lw_add (l : Launch) (hl0 : l.stackTraces = false) (G : GG) (a1 : Int32) (m0 : Mem) (v : Unit) (m' : Mem) (hF : F_Lw_add a1 m0 = some (v, m')) : Ct l G mr0 N0 yX3_add cX3_add 2 none 1 [.ref (G.2.1 + 57), .int a1] m0 none m' := by
  refine Ct_of hl0 (by decide) (Nat.le_of_ble_eq_true rfl) ?_
  intro p e s mid args below meth c ls C hrt hl hR
  have hx := C.1.1
  have hb := C.1.2.1
  have hl : lv_has ls 2 [(0, .ref (G.2.1 + 57)), (1, .int a1)] := hl
  unfold F_Lw_add at hF
  refine lv_aload_n hx hb (dk DX3_add 0 rfl) rfl (lv_at hl 0 rfl) ?_
  refine gX3_15 C hR ob57 (dk DX3_add 1 rfl) ?_
  refine lv_if_lt (tgt := 37) hx hb (dk DX3_add 2 rfl) (by decide) (fun c4 => ?_) (fun c4 => ?_)
  · have hF := if_t c4 hF
    cases hF
    exact r_vret C hrt hR (dk DX3_add 19 rfl)
  · have hF := if_f c4 hF
    refine lv_aload_n hx hb (dk DX3_add 3 rfl) rfl (lv_at hl 0 rfl) ?_
    refine gX3_15 C hR ob57 (dk DX3_add 4 rfl) ?_
    refine lv_sipush (v := (400 : Int32)) hx hb (dk DX3_add 5 rfl) (by decide) ?_
    refine lv_icmp_ge (tgt := 37) hx hb (dk DX3_add 6 rfl) (by decide) (fun c14 => ?_) (fun c14 => ?_)
    · have hF := if_t c14 hF
      cases hF
      exact r_vret C hrt hR (dk DX3_add 19 rfl)
    · have hF := if_f c14 hF
      refine lv_aload_n hx hb (dk DX3_add 7 rfl) rfl (lv_at hl 0 rfl) ?_
      refine gX3_18 C hR ob57 rf57_2 (dk DX3_add 8 rfl) ?_
      refine lv_aload_n hx hb (dk DX3_add 9 rfl) rfl (lv_at hl 0 rfl) ?_
      refine gX3_15 C hR ob57 (dk DX3_add 10 rfl) ?_
      refine lv_iload_n hx hb (dk DX3_add 11 rfl) rfl (lv_at hl 1 rfl) ?_
      obtain ⟨hq2, hF⟩ := ckB_ex hF
      refine r_iast C hR ob58 hq2 (dk DX3_add 12 rfl) (fun H locs hR => ?_)
      obtain ⟨mq1, emq1, hF⟩ := lt_ex hF
      have hR := Rp_at emq1 hR
      refine lv_aload_n hx hb (dk DX3_add 13 rfl) rfl (lv_at hl 0 rfl) ?_
      refine lv_dup hx hb (dk DX3_add 14 rfl) rfl ?_
      refine gX3_15 C hR ob57 (dk DX3_add 15 rfl) ?_
      refine lv_iconst (v := (1 : Int32)) hx hb (dk DX3_add 16 rfl) (by decide) ?_
      refine lv_iadd hx hb (dk DX3_add 17 rfl) ?_
      refine pX3_15 (x := (gI mq1 57 1) + (1 : Int32)) C hR ob57 (dk DX3_add 18 rfl) (fun H locs hR => ?_)
      obtain ⟨mq3, emq3, hF⟩ := lt_ex hF
      have hR := Rp_at emq3 hR
      cases hF
      exact r_vret C hrt hR (dk DX3_add 19 rfl)
set_option maxHeartbeats 4000000 in
set_option maxRecDepth 100000 in
theorem C_LT_readAll (l : Launch) (hl0 : l.stackTraces = false) (G : GG) (D : Nat) (rc : Int32 → Mem → Option (Unit × Mem)) (hrc : ∀ (b0 : Int32) (m0 : Mem) (v : Unit) (m' : Mem), rc b0 m0 = some (v, m') → Ct l G mr0 N0 yX4_readAtom cX4_readAtom 3 none D [.ref (G.2.1 + 52), .int b0] m0 none m') (hD : 10 ≤ D) (a1 : Int32) (m0 : Mem) (v : Unit) (m' : Mem) (hF : F_LT_readAll rc a1 m0 = some (v, m')) : Ct l G mr0 N0 yX4_readAll cX4_readAll 3 none (D + 1) [.ref (G.2.1 + 52), .int a1] m0 none m' := by
  refine Ct_of hl0 (by decide) (Nat.le_of_ble_eq_true rfl) ?_
  intro p e s mid args below meth c ls C hrt hl hR
  have hx := C.1.1
  have hb := C.1.2.1
  have hl : lv_has ls 3 [(0, .ref (G.2.1 + 52)), (1, .int a1)] := hl
  unfold F_LT_readAll at hF
  refine lv_aload_n hx hb (dk DX4_readAll 0 rfl) rfl (lv_at hl 0 rfl) ?_
  refine lv_iload_n hx hb (dk DX4_readAll 1 rfl) rfl (lv_at hl 1 rfl) ?_
  obtain ⟨uq3, mq1, hzq2, hF⟩ := bnd_ex hF
  refine r_callVv (As := [.int a1]) (rest := []) C hR (hrc a1 m0 _ _ hzq2) (by omega) (by decide) ob52 rfl wX4_60 rfl rfl (Nat.le_of_ble_eq_true rfl) hl.1 ⟨Nat.zero_le _, Nat.zero_le _⟩ (dk DX4_readAll 2 rfl) (fun H locs hR => ?_)
  refine lv_iconst (v := (0 : Int32)) hx hb (dk DX4_readAll 3 rfl) (by decide) ?_
  refine lv_istore_n (lv' := [(2, .int (0 : Int32)), (0, .ref (G.2.1 + 52)), (1, .int a1)]) hx hb (dk DX4_readAll 4 rfl) rfl hl (by decide) rfl (fun ls hl => ?_)
  have L7 : ∀ (nf : Nat) (xq5 : Int32) (mq4 : Mem) (H : Heap) (locs : List Loc) (ls : Array Slot), lv_has ls 3 [(0, .ref (G.2.1 + 52)), (1, .int a1), (2, .int xq5)] → Rp G mr0 N0 mq4 s H locs → F_LT_readAll_L7 rc a1 nf xq5 mq4 = some (v, m') → W p l e (rmD (D + 1)) s mid args below meth c H locs 0 0 (MQ below (QR G mr0 N0 none m') args s 0 0 (fun q => G.2.1 ≤ q)) (F0 mid 7 ls []) := by
    intro nf
    induction nf with
    | zero =>
      intro xq5 mq4 H locs ls hl hR hF
      rw [F_LT_readAll_L7] at hF
      cases hF
    | succ nf ihq7 =>
      intro xq5 mq4 H locs ls hl hR hF
      rw [F_LT_readAll_L7] at hF
      refine lv_iload_n hx hb (dk DX4_readAll 5 rfl) rfl (lv_at hl 2 rfl) ?_
      refine lv_sipush (v := (400 : Int32)) hx hb (dk DX4_readAll 6 rfl) (by decide) ?_
      refine lv_icmp_ge (tgt := 44) hx hb (dk DX4_readAll 7 rfl) (by decide) (fun c11 => ?_) (fun c11 => ?_)
      · have hF := if_t c11 hF
        cases hF
        exact r_vret C hrt hR (dk DX4_readAll 21 rfl)
      · have hF := if_f c11 hF
        refine lv_aload_n hx hb (dk DX4_readAll 8 rfl) rfl (lv_at hl 0 rfl) ?_
        refine r_lds C (strm_X4_63) (dk DX4_readAll 9 rfl) ?_
        obtain ⟨zq10, mq8, hzq9, hF⟩ := bnd_ex hF
        refine r_callUi (As := [.ref (G.2.2.2.2.2.2 ("and"))]) (rest := []) C hR (C_Tx_takesWordL l hl0 G ("and") mq4 txm_24 _ _ hzq9) (by omega) (by decide) ob52 rfl wX4_44_4 rfl rfl (Nat.le_of_ble_eq_true rfl) hl.1 ⟨Nat.zero_le _, Nat.zero_le _⟩ (dk DX4_readAll 10 rfl) (fun H locs hR => ?_)
        refine z_ifeq (tgt := 44) hx hb (dk DX4_readAll 11 rfl) (by decide) (fun c20 => ?_) (fun c20 => ?_)
        · have hF := if_f c20 hF
          cases hF
          exact r_vret C hrt hR (dk DX4_readAll 21 rfl)
        · have hF := if_t c20 hF
          refine lv_aload_n hx hb (dk DX4_readAll 12 rfl) rfl (lv_at hl 0 rfl) ?_
          refine lv_iload_n hx hb (dk DX4_readAll 13 rfl) rfl (lv_at hl 1 rfl) ?_
          obtain ⟨uq13, mq11, hzq12, hF⟩ := bnd_ex hF
          refine r_callVv (As := [.int a1]) (rest := []) C hR (hrc a1 mq8 _ _ hzq12) (by omega) (by decide) ob52 rfl wX4_60 rfl rfl (Nat.le_of_ble_eq_true rfl) hl.1 ⟨Nat.zero_le _, Nat.zero_le _⟩ (dk DX4_readAll 14 rfl) (fun H locs hR => ?_)
          refine lv_aload_n hx hb (dk DX4_readAll 15 rfl) rfl (lv_at hl 0 rfl) ?_
          refine gX4_12 C hR ob52 rf52_7 (dk DX4_readAll 16 rfl) ?_
          refine lv_sipush (v := (1101 : Int32)) hx hb (dk DX4_readAll 17 rfl) (by decide) ?_
          obtain ⟨uq16, mq14, hzq15, hF⟩ := bnd_ex hF
          refine r_callVv (As := [.int (1101 : Int32)]) (rest := []) C hR (C_Lw_add l hl0 G (1101 : Int32) mq11 _ _ hzq15) (by omega) (by decide) ob57 rfl wX4_52 rfl rfl (Nat.le_of_ble_eq_true rfl) hl.1 ⟨Nat.zero_le _, Nat.zero_le _⟩ (dk DX4_readAll 18 rfl) (fun H locs hR => ?_)
          obtain ⟨xq17, exq17, hF⟩ := lt_ex hF
          refine lv_iinc (v := xq17) (lv' := [(2, .int xq17), (0, .ref (G.2.1 + 52)), (1, .int a1)]) hx hb (dk DX4_readAll 19 rfl) hl (k := 2) rfl (by rw [exq17]; rfl) (by decide) rfl (fun ls hl => ?_)
          refine lv_goto (tgt := 7) hx hb (dk DX4_readAll 20 rfl) (by decide) ?_
          exact ihq7 xq17 mq14 _ _ ls (lv_sub hl [1, 2, 0] rfl) hR hF
  exact L7 1000000 (0 : Int32) mq1 _ _ ls (lv_sub hl [1, 2, 0] rfl) hR hF
set_option maxHeartbeats 4000000 in
set_option maxRecDepth 100000 in
theorem C_LT_readAny (l : Launch) (hl0 : l.stackTraces = false) (G : GG) (D : Nat) (rc : Int32 → Mem → Option (Unit × Mem)) (hrc : ∀ (b0 : Int32) (m0 : Mem) (v : Unit) (m' : Mem), rc b0 m0 = some (v, m') → Ct l G mr0 N0 yX4_readAtom cX4_readAtom 3 none D [.ref (G.2.1 + 52), .int b0] m0 none m') (hD : 10 ≤ D) (a1 : Int32) (m0 : Mem) (v : Unit) (m' : Mem) (hF : F_LT_readAny rc a1 m0 = some (v, m')) : Ct l G mr0 N0 yX4_readAny cX4_readAny 3 none (D + 2) [.ref (G.2.1 + 52), .int a1] m0 none m' := by
  refine Ct_of hl0 (by decide) (Nat.le_of_ble_eq_true rfl) ?_
  intro p e s mid args below meth c ls C hrt hl hR
  have hx := C.1.1
  have hb := C.1.2.1
  have hl : lv_has ls 3 [(0, .ref (G.2.1 + 52)), (1, .int a1)] := hl
  unfold F_LT_readAny at hF
  refine lv_aload_n hx hb (dk DX4_readAny 0 rfl) rfl (lv_at hl 0 rfl) ?_
  refine lv_iload_n hx hb (dk DX4_readAny 1 rfl) rfl (lv_at hl 1 rfl) ?_
  obtain ⟨uq3, mq1, hzq2, hF⟩ := bnd_ex hF
  refine r_callVv (As := [.int a1]) (rest := []) C hR (C_LT_readAll l hl0 G D rc hrc (by omega) a1 m0 _ _ hzq2) (by omega) (by decide) ob52 rfl wX4_55 rfl rfl (Nat.le_of_ble_eq_true rfl) hl.1 ⟨Nat.zero_le _, Nat.zero_le _⟩ (dk DX4_readAny 2 rfl) (fun H locs hR => ?_)
  refine lv_iconst (v := (0 : Int32)) hx hb (dk DX4_readAny 3 rfl) (by decide) ?_
  refine lv_istore_n (lv' := [(2, .int (0 : Int32)), (0, .ref (G.2.1 + 52)), (1, .int a1)]) hx hb (dk DX4_readAny 4 rfl) rfl hl (by decide) rfl (fun ls hl => ?_)
  have L7 : ∀ (nf : Nat) (xq5 : Int32) (mq4 : Mem) (H : Heap) (locs : List Loc) (ls : Array Slot), lv_has ls 3 [(0, .ref (G.2.1 + 52)), (1, .int a1), (2, .int xq5)] → Rp G mr0 N0 mq4 s H locs → F_LT_readAny_L7 rc a1 nf xq5 mq4 = some (v, m') → W p l e (rmD (D + 2)) s mid args below meth c H locs 0 0 (MQ below (QR G mr0 N0 none m') args s 0 0 (fun q => G.2.1 ≤ q)) (F0 mid 7 ls []) := by
    intro nf
    induction nf with
    | zero =>
      intro xq5 mq4 H locs ls hl hR hF
      rw [F_LT_readAny_L7] at hF
      cases hF
    | succ nf ihq7 =>
      intro xq5 mq4 H locs ls hl hR hF
      rw [F_LT_readAny_L7] at hF
      refine lv_iload_n hx hb (dk DX4_readAny 5 rfl) rfl (lv_at hl 2 rfl) ?_
      refine lv_sipush (v := (400 : Int32)) hx hb (dk DX4_readAny 6 rfl) (by decide) ?_
      refine lv_icmp_ge (tgt := 44) hx hb (dk DX4_readAny 7 rfl) (by decide) (fun c11 => ?_) (fun c11 => ?_)
      · have hF := if_t c11 hF
        cases hF
        exact r_vret C hrt hR (dk DX4_readAny 21 rfl)
      · have hF := if_f c11 hF
        refine lv_aload_n hx hb (dk DX4_readAny 8 rfl) rfl (lv_at hl 0 rfl) ?_
        refine r_lds C (strm_X4_58) (dk DX4_readAny 9 rfl) ?_
        obtain ⟨zq10, mq8, hzq9, hF⟩ := bnd_ex hF
        refine r_callUi (As := [.ref (G.2.2.2.2.2.2 ("or"))]) (rest := []) C hR (C_Tx_takesWordL l hl0 G ("or") mq4 txm_25 _ _ hzq9) (by omega) (by decide) ob52 rfl wX4_44_4 rfl rfl (Nat.le_of_ble_eq_true rfl) hl.1 ⟨Nat.zero_le _, Nat.zero_le _⟩ (dk DX4_readAny 10 rfl) (fun H locs hR => ?_)
        refine z_ifeq (tgt := 44) hx hb (dk DX4_readAny 11 rfl) (by decide) (fun c20 => ?_) (fun c20 => ?_)
        · have hF := if_f c20 hF
          cases hF
          exact r_vret C hrt hR (dk DX4_readAny 21 rfl)
        · have hF := if_t c20 hF
          refine lv_aload_n hx hb (dk DX4_readAny 12 rfl) rfl (lv_at hl 0 rfl) ?_
          refine lv_iload_n hx hb (dk DX4_readAny 13 rfl) rfl (lv_at hl 1 rfl) ?_
          obtain ⟨uq13, mq11, hzq12, hF⟩ := bnd_ex hF
          refine r_callVv (As := [.int a1]) (rest := []) C hR (C_LT_readAll l hl0 G D rc hrc (by omega) a1 mq8 _ _ hzq12) (by omega) (by decide) ob52 rfl wX4_55 rfl rfl (Nat.le_of_ble_eq_true rfl) hl.1 ⟨Nat.zero_le _, Nat.zero_le _⟩ (dk DX4_readAny 14 rfl) (fun H locs hR => ?_)
          refine lv_aload_n hx hb (dk DX4_readAny 15 rfl) rfl (lv_at hl 0 rfl) ?_
          refine gX4_12 C hR ob52 rf52_7 (dk DX4_readAny 16 rfl) ?_
          refine lv_sipush (v := (1102 : Int32)) hx hb (dk DX4_readAny 17 rfl) (by decide) ?_
          obtain ⟨uq16, mq14, hzq15, hF⟩ := bnd_ex hF
          refine r_callVv (As := [.int (1102 : Int32)]) (rest := []) C hR (C_Lw_add l hl0 G (1102 : Int32) mq11 _ _ hzq15) (by omega) (by decide) ob57 rfl wX4_52 rfl rfl (Nat.le_of_ble_eq_true rfl) hl.1 ⟨Nat.zero_le _, Nat.zero_le _⟩ (dk DX4_readAny 18 rfl) (fun H locs hR => ?_)
          obtain ⟨xq17, exq17, hF⟩ := lt_ex hF
          refine lv_iinc (v := xq17) (lv' := [(2, .int xq17), (0, .ref (G.2.1 + 52)), (1, .int a1)]) hx hb (dk DX4_readAny 19 rfl) hl (k := 2) rfl (by rw [exq17]; rfl) (by decide) rfl (fun ls hl => ?_)
          refine lv_goto (tgt := 7) hx hb (dk DX4_readAny 20 rfl) (by decide) ?_
          exact ihq7 xq17 mq14 _ _ ls (lv_sub hl [1, 2, 0] rfl) hR hF
  exact L7 1000000 (0 : Int32) mq1 _ _ ls (lv_sub hl [1, 2, 0] rfl) hR hF
set_option maxHeartbeats 4000000 in
set_option maxRecDepth 100000 in
theorem C_Tx_isAtNumberL (l : Launch) (hl0 : l.stackTraces = false) (G : GG) (m0 : Mem) (v : Bool) (m' : Mem) (hF : F_Tx_isAtNumberL m0 = some (v, m')) : Ct l G mr0 N0 yX9_isAtNumber cX9_isAtNumber 1 (some .boolean) 2 [.ref (G.2.1 + 52)] m0 (some (.int (b2i v))) m' := by
  refine Ct_of hl0 (by decide) (Nat.le_of_ble_eq_true rfl) ?_
  intro p e s mid args below meth c ls C hrt hl hR
  have hx := C.1.1
  have hb := C.1.2.1
  have hl : lv_has ls 1 [(0, .ref (G.2.1 + 52))] := hl
  unfold F_Tx_isAtNumberL at hF
  refine lv_aload_n hx hb (dk DX9_isAtNumber 0 rfl) rfl (lv_at hl 0 rfl) ?_
  refine lv_iconst (v := (1 : Int32)) hx hb (dk DX9_isAtNumber 1 rfl) (by decide) ?_
  obtain ⟨zq3, mq1, hzq2, hF⟩ := bnd_ex hF
  refine r_callVi (As := [.int (1 : Int32)]) (rest := []) C hR (C_Tx_isAtL l hl0 G (1 : Int32) m0 _ _ hzq2) (by decide) (by decide) ob52 rfl wX9_44_4 rfl rfl (Nat.le_of_ble_eq_true rfl) hl.1 ⟨Nat.zero_le _, Nat.zero_le _⟩ (dk DX9_isAtNumber 2 rfl) (fun H locs hR => ?_)
  cases hF
  exact r_zret C hrt hR (dk DX9_isAtNumber 3 rfl)
set_option maxHeartbeats 4000000 in
set_option maxRecDepth 100000 in
theorem C_Tx_takesSignL (l : Launch) (hl0 : l.stackTraces = false) (G : GG) (a1 : Int32) (m0 : Mem) (v : Bool) (m' : Mem) (hF : F_Tx_takesSignL a1 m0 = some (v, m')) : Ct l G mr0 N0 yX9_takesSign cX9_takesSign 2 (some .boolean) 2 [.ref (G.2.1 + 52), .int a1] m0 (some (.int (b2i v))) m' := by
  refine Ct_of hl0 (by decide) (Nat.le_of_ble_eq_true rfl) ?_
  intro p e s mid args below meth c ls C hrt hl hR
  have hx := C.1.1
  have hb := C.1.2.1
  have hl : lv_has ls 2 [(0, .ref (G.2.1 + 52)), (1, .int a1)] := hl
  unfold F_Tx_takesSignL at hF
  refine lv_aload_n hx hb (dk DX9_takesSign 0 rfl) rfl (lv_at hl 0 rfl) ?_
  refine lv_iconst (v := (2 : Int32)) hx hb (dk DX9_takesSign 1 rfl) (by decide) ?_
  obtain ⟨zq3, mq1, hzq2, hF⟩ := bnd_ex hF
  refine r_callVi (As := [.int (2 : Int32)]) (rest := []) C hR (C_Tx_isAtL l hl0 G (2 : Int32) m0 _ _ hzq2) (by decide) (by decide) ob52 rfl wX9_44_4 rfl rfl (Nat.le_of_ble_eq_true rfl) hl.1 ⟨Nat.zero_le _, Nat.zero_le _⟩ (dk DX9_takesSign 2 rfl) (fun H locs hR => ?_)
  refine z_ifeq (tgt := 25) hx hb (dk DX9_takesSign 3 rfl) (by decide) (fun c5 => ?_) (fun c5 => ?_)
  · have hF := if_f c5 hF
    refine lv_iconst (v := (0 : Int32)) hx hb (dk DX9_takesSign 13 rfl) (by decide) ?_
    cases hF
    exact r_zret C hrt hR (dk DX9_takesSign 14 rfl)
  · have hF := if_t c5 hF
    refine lv_aload_n hx hb (dk DX9_takesSign 4 rfl) rfl (lv_at hl 0 rfl) ?_
    refine lv_aload_n hx hb (dk DX9_takesSign 5 rfl) rfl (lv_at hl 0 rfl) ?_
    refine gX9_18_4 C hR ob52 rf52_2 (dk DX9_takesSign 6 rfl) ?_
    refine lv_aload_n hx hb (dk DX9_takesSign 7 rfl) rfl (lv_at hl 0 rfl) ?_
    refine gX9_28_4 C hR ob52 (dk DX9_takesSign 8 rfl) ?_
    obtain ⟨hq4, hF⟩ := ckB_ex hF
    refine r_iald C hR ob55 hq4 (dk DX9_takesSign 9 rfl) ?_
    refine lv_topi (fun xq5 exq5 => ?_)
    have hF := lt_at exq5 hF
    obtain ⟨xq8, mq6, hzq7, hF⟩ := bnd_ex hF
    refine r_callVi (As := [.int xq5]) (rest := []) C hR (C_Tx_byteAtL l hl0 G xq5 mq1 _ _ hzq7) (by decide) (by decide) ob52 rfl wX9_69_4 rfl rfl (Nat.le_of_ble_eq_true rfl) hl.1 ⟨Nat.zero_le _, Nat.zero_le _⟩ (dk DX9_takesSign 10 rfl) (fun H locs hR => ?_)
    refine lv_iload_n hx hb (dk DX9_takesSign 11 rfl) rfl (lv_at hl 1 rfl) ?_
    refine lv_icmp_eq (tgt := 27) hx hb (dk DX9_takesSign 12 rfl) (by decide) (fun c22 => ?_) (fun c22 => ?_)
    · have hF := if_t c22 hF
      refine lv_aload_n hx hb (dk DX9_takesSign 15 rfl) rfl (lv_at hl 0 rfl) ?_
      refine lv_dup hx hb (dk DX9_takesSign 16 rfl) rfl ?_
      refine gX9_28_4 C hR ob52 (dk DX9_takesSign 17 rfl) ?_
      refine lv_iconst (v := (1 : Int32)) hx hb (dk DX9_takesSign 18 rfl) (by decide) ?_
      refine lv_iadd hx hb (dk DX9_takesSign 19 rfl) ?_
      refine pX9_28_4 (x := (gI mq6 52 5) + (1 : Int32)) C hR ob52 (dk DX9_takesSign 20 rfl) (fun H locs hR => ?_)
      obtain ⟨mq9, emq9, hF⟩ := lt_ex hF
      have hR := Rp_at emq9 hR
      refine lv_iconst (v := (1 : Int32)) hx hb (dk DX9_takesSign 21 rfl) (by decide) ?_
      cases hF
      exact r_zret C hrt hR (dk DX9_takesSign 22 rfl)
    · have hF := if_f c22 hF
      refine lv_iconst (v := (0 : Int32)) hx hb (dk DX9_takesSign 13 rfl) (by decide) ?_
      cases hF
      exact r_zret C hrt hR (dk DX9_takesSign 14 rfl)
set_option maxHeartbeats 4000000 in
set_option maxRecDepth 100000 in
theorem C_LT_readSum (l : Launch) (hl0 : l.stackTraces = false) (G : GG) (m0 : Mem) (v : Unit) (m' : Mem) (hF : F_LT_readSum m0 = some (v, m')) : Ct l G mr0 N0 yX4_readSum cX4_readSum 3 none 10 [.ref (G.2.1 + 52)] m0 none m' := by
  refine Ct_of hl0 (by decide) (Nat.le_of_ble_eq_true rfl) ?_
  intro p e s mid args below meth c ls C hrt hl hR
  have hx := C.1.1
  have hb := C.1.2.1
  have hl : lv_has ls 3 [(0, .ref (G.2.1 + 52))] := hl
  unfold F_LT_readSum at hF
  refine lv_iconst (v := (1 : Int32)) hx hb (dk DX4_readSum 0 rfl) (by decide) ?_
  refine lv_istore_n (lv' := [(1, .int (1 : Int32)), (0, .ref (G.2.1 + 52))]) hx hb (dk DX4_readSum 1 rfl) rfl hl (by decide) rfl (fun ls hl => ?_)
  refine lv_iconst (v := (0 : Int32)) hx hb (dk DX4_readSum 2 rfl) (by decide) ?_
  refine lv_istore_n (lv' := [(2, .int (0 : Int32)), (1, .int (1 : Int32)), (0, .ref (G.2.1 + 52))]) hx hb (dk DX4_readSum 3 rfl) rfl hl (by decide) rfl (fun ls hl => ?_)
  have L4 : ∀ (nf : Nat) (zq2 : Bool) (xq3 : Int32) (mq1 : Mem) (H : Heap) (locs : List Loc) (ls : Array Slot), lv_has ls 3 [(0, .ref (G.2.1 + 52)), (1, .int (b2i zq2)), (2, .int xq3)] → Rp G mr0 N0 mq1 s H locs → F_LT_readSum_L4 nf zq2 xq3 mq1 = some (v, m') → W p l e (rmD 10) s mid args below meth c H locs 0 0 (MQ below (QR G mr0 N0 none m') args s 0 0 (fun q => G.2.1 ≤ q)) (F0 mid 4 ls []) := by
    intro nf
    induction nf with
    | zero =>
      intro zq2 xq3 mq1 H locs ls hl hR hF
      rw [F_LT_readSum_L4] at hF
      cases hF
    | succ nf ihq5 =>
      intro zq2 xq3 mq1 H locs ls hl hR hF
      rw [F_LT_readSum_L4] at hF
      refine lv_iload_n hx hb (dk DX4_readSum 4 rfl) rfl (lv_at hl 2 rfl) ?_
      refine lv_sipush (v := (400 : Int32)) hx hb (dk DX4_readSum 5 rfl) (by decide) ?_
      refine lv_icmp_ge (tgt := 203) hx hb (dk DX4_readSum 6 rfl) (by decide) (fun c8 => ?_) (fun c8 => ?_)
      · have hF := if_t c8 hF
        cases hF
        exact r_vret C hrt hR (dk DX4_readSum 88 rfl)
      · have hF := if_f c8 hF
        refine lv_iload_n hx hb (dk DX4_readSum 7 rfl) rfl (lv_at hl 1 rfl) ?_
        refine z_ifeq (tgt := 203) hx hb (dk DX4_readSum 8 rfl) (by decide) (fun c12 => ?_) (fun c12 => ?_)
        · have hF := if_f c12 hF
          cases hF
          exact r_vret C hrt hR (dk DX4_readSum 88 rfl)
        · have hF := if_t c12 hF
          refine lv_aload_n hx hb (dk DX4_readSum 9 rfl) rfl (lv_at hl 0 rfl) ?_
          obtain ⟨zq8, mq6, hzq7, hF⟩ := bnd_ex hF
          refine r_callUi (As := []) (rest := []) C hR (C_Tx_isAtNumberL l hl0 G mq1 _ _ hzq7) (by decide) (by decide) ob52 rfl wX4_81_4 rfl rfl (Nat.le_of_ble_eq_true rfl) hl.1 ⟨Nat.zero_le _, Nat.zero_le _⟩ (dk DX4_readSum 10 rfl) (fun H locs hR => ?_)
          obtain ⟨k176_9, ek176_9, hF⟩ := lt_ex hF
          have J176 : ∀ (mq9 : Mem) (H : Heap) (locs : List Loc) (ls : Array Slot), lv_has ls 3 [(0, .ref (G.2.1 + 52)), (2, .int xq3)] → Rp G mr0 N0 mq9 s H locs → k176_9  mq9 = some (v, m') → W p l e (rmD 10) s mid args below meth c H locs 0 0 (MQ below (QR G mr0 N0 none m') args s 0 0 (fun q => G.2.1 ≤ q)) (F0 mid 176 ls []) := by
            intro  mq9 H locs ls hl hR hF
            rw [ek176_9] at hF
            refine lv_iload_n hx hb (dk DX4_readSum 76 rfl) rfl (lv_at hl 1 rfl) ?_
            obtain ⟨k190_10, ek190_10, hF⟩ := lt_ex hF
            have J190 : ∀ (mq10 : Mem) (H : Heap) (locs : List Loc) (ls : Array Slot), lv_has ls 3 [(0, .ref (G.2.1 + 52)), (2, .int xq3)] → Rp G mr0 N0 mq10 s H locs → k190_10  mq10 = some (v, m') → W p l e (rmD 10) s mid args below meth c H locs 0 0 (MQ below (QR G mr0 N0 none m') args s 0 0 (fun q => G.2.1 ≤ q)) (F0 mid 190 ls []) := by
              intro  mq10 H locs ls hl hR hF
              rw [ek190_10] at hF
              refine lv_aload_n hx hb (dk DX4_readSum 82 rfl) rfl (lv_at hl 0 rfl) ?_
              refine lv_bipush (v := (43 : Int32)) hx hb (dk DX4_readSum 83 rfl) (by decide) ?_
              obtain ⟨zq13, mq11, hzq12, hF⟩ := bnd_ex hF
              refine r_callUi (As := [.int (43 : Int32)]) (rest := []) C hR (C_Tx_takesSignL l hl0 G (43 : Int32) mq10 _ _ hzq12) (by decide) (by decide) ob52 rfl wX4_67_4 rfl rfl (Nat.le_of_ble_eq_true rfl) hl.1 ⟨Nat.zero_le _, Nat.zero_le _⟩ (dk DX4_readSum 84 rfl) (fun H locs hR => ?_)
              refine lv_istore_n (lv' := [(1, .int (b2i zq13)), (0, .ref (G.2.1 + 52)), (2, .int xq3)]) hx hb (dk DX4_readSum 85 rfl) rfl hl (by decide) rfl (fun ls hl => ?_)
              obtain ⟨xq14, exq14, hF⟩ := lt_ex hF
              refine lv_iinc (v := xq14) (lv' := [(2, .int xq14), (1, .int (b2i zq13)), (0, .ref (G.2.1 + 52))]) hx hb (dk DX4_readSum 86 rfl) hl (k := 2) rfl (by rw [exq14]; rfl) (by decide) rfl (fun ls hl => ?_)
              refine lv_goto (tgt := 4) hx hb (dk DX4_readSum 87 rfl) (by decide) ?_
              exact ihq5 zq13 xq14 mq11 _ _ ls (lv_sub hl [2, 1, 0] rfl) hR hF
            refine lv_if_le (tgt := 190) hx hb (dk DX4_readSum 77 rfl) (by decide) (fun c177 => ?_) (fun c177 => ?_)
            · have hF := if_t c177 hF
              exact J190 mq9 _ _ ls (lv_sub hl [0, 1] rfl) hR hF
            · have hF := if_f c177 hF
              refine lv_aload_n hx hb (dk DX4_readSum 78 rfl) rfl (lv_at hl 0 rfl) ?_
              refine gX4_12 C hR ob52 rf52_7 (dk DX4_readSum 79 rfl) ?_
              refine lv_sipush (v := (1105 : Int32)) hx hb (dk DX4_readSum 80 rfl) (by decide) ?_
              obtain ⟨uq17, mq15, hzq16, hF⟩ := bnd_ex hF
              refine r_callVv (As := [.int (1105 : Int32)]) (rest := []) C hR (C_Lw_add l hl0 G (1105 : Int32) mq9 _ _ hzq16) (by decide) (by decide) ob57 rfl wX4_52 rfl rfl (Nat.le_of_ble_eq_true rfl) hl.1 ⟨Nat.zero_le _, Nat.zero_le _⟩ (dk DX4_readSum 81 rfl) (fun H locs hR => ?_)
              exact J190 mq15 _ _ ls (lv_sub hl [0, 1] rfl) hR hF
          refine z_ifeq (tgt := 40) hx hb (dk DX4_readSum 11 rfl) (by decide) (fun c19 => ?_) (fun c19 => ?_)
          · have hF := if_f c19 hF
            refine lv_aload_n hx hb (dk DX4_readSum 20 rfl) rfl (lv_at hl 0 rfl) ?_
            refine r_lds C (strm_X4_85) (dk DX4_readSum 21 rfl) ?_
            obtain ⟨zq20, mq18, hzq19, hF⟩ := bnd_ex hF
            refine r_callUi (As := [.ref (G.2.2.2.2.2.2 ("session"))]) (rest := []) C hR (C_Tx_takesWordL l hl0 G ("session") mq6 txm_18 _ _ hzq19) (by decide) (by decide) ob52 rfl wX4_44_4 rfl rfl (Nat.le_of_ble_eq_true rfl) hl.1 ⟨Nat.zero_le _, Nat.zero_le _⟩ (dk DX4_readSum 22 rfl) (fun H locs hR => ?_)
            refine z_ifeq (tgt := 62) hx hb (dk DX4_readSum 23 rfl) (by decide) (fun c46 => ?_) (fun c46 => ?_)
            · have hF := if_f c46 hF
              refine lv_aload_n hx hb (dk DX4_readSum 29 rfl) rfl (lv_at hl 0 rfl) ?_
              refine r_lds C (strm_X4_87) (dk DX4_readSum 30 rfl) ?_
              obtain ⟨zq23, mq21, hzq22, hF⟩ := bnd_ex hF
              refine r_callUi (As := [.ref (G.2.2.2.2.2.2 ("day"))]) (rest := []) C hR (C_Tx_takesWordL l hl0 G ("day") mq18 txm_19 _ _ hzq22) (by decide) (by decide) ob52 rfl wX4_44_4 rfl rfl (Nat.le_of_ble_eq_true rfl) hl.1 ⟨Nat.zero_le _, Nat.zero_le _⟩ (dk DX4_readSum 31 rfl) (fun H locs hR => ?_)
              refine z_ifeq (tgt := 84) hx hb (dk DX4_readSum 32 rfl) (by decide) (fun c68 => ?_) (fun c68 => ?_)
              · have hF := if_f c68 hF
                refine lv_aload_n hx hb (dk DX4_readSum 38 rfl) rfl (lv_at hl 0 rfl) ?_
                refine r_lds C (strm_X4_89) (dk DX4_readSum 39 rfl) ?_
                obtain ⟨zq26, mq24, hzq25, hF⟩ := bnd_ex hF
                refine r_callUi (As := [.ref (G.2.2.2.2.2.2 ("innings"))]) (rest := []) C hR (C_Tx_takesWordL l hl0 G ("innings") mq21 txm_20 _ _ hzq25) (by decide) (by decide) ob52 rfl wX4_44_4 rfl rfl (Nat.le_of_ble_eq_true rfl) hl.1 ⟨Nat.zero_le _, Nat.zero_le _⟩ (dk DX4_readSum 40 rfl) (fun H locs hR => ?_)
                refine z_ifeq (tgt := 106) hx hb (dk DX4_readSum 41 rfl) (by decide) (fun c90 => ?_) (fun c90 => ?_)
                · have hF := if_f c90 hF
                  refine lv_aload_n hx hb (dk DX4_readSum 47 rfl) rfl (lv_at hl 0 rfl) ?_
                  refine r_lds C (strm_X4_91) (dk DX4_readSum 48 rfl) ?_
                  obtain ⟨zq29, mq27, hzq28, hF⟩ := bnd_ex hF
                  refine r_callUi (As := [.ref (G.2.2.2.2.2.2 ("side"))]) (rest := []) C hR (C_Tx_takesWordL l hl0 G ("side") mq24 txm_1 _ _ hzq28) (by decide) (by decide) ob52 rfl wX4_44_4 rfl rfl (Nat.le_of_ble_eq_true rfl) hl.1 ⟨Nat.zero_le _, Nat.zero_le _⟩ (dk DX4_readSum 49 rfl) (fun H locs hR => ?_)
                  refine z_ifeq (tgt := 128) hx hb (dk DX4_readSum 50 rfl) (by decide) (fun c112 => ?_) (fun c112 => ?_)
                  · have hF := if_f c112 hF
                    refine lv_aload_n hx hb (dk DX4_readSum 56 rfl) rfl (lv_at hl 0 rfl) ?_
                    refine r_lds C (strm_X4_93) (dk DX4_readSum 57 rfl) ?_
                    obtain ⟨zq32, mq30, hzq31, hF⟩ := bnd_ex hF
                    refine r_callUi (As := [.ref (G.2.2.2.2.2.2 ("bat"))]) (rest := []) C hR (C_Tx_takesWordL l hl0 G ("bat") mq27 txm_2 _ _ hzq31) (by decide) (by decide) ob52 rfl wX4_44_4 rfl rfl (Nat.le_of_ble_eq_true rfl) hl.1 ⟨Nat.zero_le _, Nat.zero_le _⟩ (dk DX4_readSum 58 rfl) (fun H locs hR => ?_)
                    refine z_ifeq (tgt := 150) hx hb (dk DX4_readSum 59 rfl) (by decide) (fun c134 => ?_) (fun c134 => ?_)
                    · have hF := if_f c134 hF
                      refine lv_aload_n hx hb (dk DX4_readSum 65 rfl) rfl (lv_at hl 0 rfl) ?_
                      refine r_lds C (strm_X4_95) (dk DX4_readSum 66 rfl) ?_
                      obtain ⟨zq35, mq33, hzq34, hF⟩ := bnd_ex hF
                      refine r_callUi (As := [.ref (G.2.2.2.2.2.2 ("bowl"))]) (rest := []) C hR (C_Tx_takesWordL l hl0 G ("bowl") mq30 txm_3 _ _ hzq34) (by decide) (by decide) ob52 rfl wX4_44_4 rfl rfl (Nat.le_of_ble_eq_true rfl) hl.1 ⟨Nat.zero_le _, Nat.zero_le _⟩ (dk DX4_readSum 67 rfl) (fun H locs hR => ?_)
                      refine z_ifeq (tgt := 172) hx hb (dk DX4_readSum 68 rfl) (by decide) (fun c156 => ?_) (fun c156 => ?_)
                      · have hF := if_f c156 hF
                        refine lv_aload_n hx hb (dk DX4_readSum 74 rfl) rfl (lv_at hl 0 rfl) ?_
                        obtain ⟨uq38, mq36, hzq37, hF⟩ := bnd_ex hF
                        refine r_callUv (As := []) (rest := []) C hR (C_Tx_setWrongL l hl0 G mq33 _ _ hzq37) (by decide) (by decide) ob52 rfl wX4_71_4 rfl rfl (Nat.le_of_ble_eq_true rfl) hl.1 ⟨Nat.zero_le _, Nat.zero_le _⟩ (dk DX4_readSum 75 rfl) (fun H locs hR => ?_)
                        exact J176 mq36 _ _ ls (lv_sub hl [0, 2] rfl) hR hF
                      · have hF := if_t c156 hF
                        refine lv_aload_n hx hb (dk DX4_readSum 69 rfl) rfl (lv_at hl 0 rfl) ?_
                        refine gX4_12 C hR ob52 rf52_7 (dk DX4_readSum 70 rfl) ?_
                        refine lv_sipush (v := (1005 : Int32)) hx hb (dk DX4_readSum 71 rfl) (by decide) ?_
                        obtain ⟨uq41, mq39, hzq40, hF⟩ := bnd_ex hF
                        refine r_callVv (As := [.int (1005 : Int32)]) (rest := []) C hR (C_Lw_add l hl0 G (1005 : Int32) mq33 _ _ hzq40) (by decide) (by decide) ob57 rfl wX4_52 rfl rfl (Nat.le_of_ble_eq_true rfl) hl.1 ⟨Nat.zero_le _, Nat.zero_le _⟩ (dk DX4_readSum 72 rfl) (fun H locs hR => ?_)
                        refine lv_goto (tgt := 176) hx hb (dk DX4_readSum 73 rfl) (by decide) ?_
                        exact J176 mq39 _ _ ls (lv_sub hl [0, 2] rfl) hR hF
                    · have hF := if_t c134 hF
                      refine lv_aload_n hx hb (dk DX4_readSum 60 rfl) rfl (lv_at hl 0 rfl) ?_
                      refine gX4_12 C hR ob52 rf52_7 (dk DX4_readSum 61 rfl) ?_
                      refine lv_sipush (v := (1004 : Int32)) hx hb (dk DX4_readSum 62 rfl) (by decide) ?_
                      obtain ⟨uq44, mq42, hzq43, hF⟩ := bnd_ex hF
                      refine r_callVv (As := [.int (1004 : Int32)]) (rest := []) C hR (C_Lw_add l hl0 G (1004 : Int32) mq30 _ _ hzq43) (by decide) (by decide) ob57 rfl wX4_52 rfl rfl (Nat.le_of_ble_eq_true rfl) hl.1 ⟨Nat.zero_le _, Nat.zero_le _⟩ (dk DX4_readSum 63 rfl) (fun H locs hR => ?_)
                      refine lv_goto (tgt := 176) hx hb (dk DX4_readSum 64 rfl) (by decide) ?_
                      exact J176 mq42 _ _ ls (lv_sub hl [0, 2] rfl) hR hF
                  · have hF := if_t c112 hF
                    refine lv_aload_n hx hb (dk DX4_readSum 51 rfl) rfl (lv_at hl 0 rfl) ?_
                    refine gX4_12 C hR ob52 rf52_7 (dk DX4_readSum 52 rfl) ?_
                    refine lv_sipush (v := (1003 : Int32)) hx hb (dk DX4_readSum 53 rfl) (by decide) ?_
                    obtain ⟨uq47, mq45, hzq46, hF⟩ := bnd_ex hF
                    refine r_callVv (As := [.int (1003 : Int32)]) (rest := []) C hR (C_Lw_add l hl0 G (1003 : Int32) mq27 _ _ hzq46) (by decide) (by decide) ob57 rfl wX4_52 rfl rfl (Nat.le_of_ble_eq_true rfl) hl.1 ⟨Nat.zero_le _, Nat.zero_le _⟩ (dk DX4_readSum 54 rfl) (fun H locs hR => ?_)
                    refine lv_goto (tgt := 176) hx hb (dk DX4_readSum 55 rfl) (by decide) ?_
                    exact J176 mq45 _ _ ls (lv_sub hl [0, 2] rfl) hR hF
                · have hF := if_t c90 hF
                  refine lv_aload_n hx hb (dk DX4_readSum 42 rfl) rfl (lv_at hl 0 rfl) ?_
                  refine gX4_12 C hR ob52 rf52_7 (dk DX4_readSum 43 rfl) ?_
                  refine lv_sipush (v := (1002 : Int32)) hx hb (dk DX4_readSum 44 rfl) (by decide) ?_
                  obtain ⟨uq50, mq48, hzq49, hF⟩ := bnd_ex hF
                  refine r_callVv (As := [.int (1002 : Int32)]) (rest := []) C hR (C_Lw_add l hl0 G (1002 : Int32) mq24 _ _ hzq49) (by decide) (by decide) ob57 rfl wX4_52 rfl rfl (Nat.le_of_ble_eq_true rfl) hl.1 ⟨Nat.zero_le _, Nat.zero_le _⟩ (dk DX4_readSum 45 rfl) (fun H locs hR => ?_)
                  refine lv_goto (tgt := 176) hx hb (dk DX4_readSum 46 rfl) (by decide) ?_
                  exact J176 mq48 _ _ ls (lv_sub hl [0, 2] rfl) hR hF
              · have hF := if_t c68 hF
                refine lv_aload_n hx hb (dk DX4_readSum 33 rfl) rfl (lv_at hl 0 rfl) ?_
                refine gX4_12 C hR ob52 rf52_7 (dk DX4_readSum 34 rfl) ?_
                refine lv_sipush (v := (1001 : Int32)) hx hb (dk DX4_readSum 35 rfl) (by decide) ?_
                obtain ⟨uq53, mq51, hzq52, hF⟩ := bnd_ex hF
                refine r_callVv (As := [.int (1001 : Int32)]) (rest := []) C hR (C_Lw_add l hl0 G (1001 : Int32) mq21 _ _ hzq52) (by decide) (by decide) ob57 rfl wX4_52 rfl rfl (Nat.le_of_ble_eq_true rfl) hl.1 ⟨Nat.zero_le _, Nat.zero_le _⟩ (dk DX4_readSum 36 rfl) (fun H locs hR => ?_)
                refine lv_goto (tgt := 176) hx hb (dk DX4_readSum 37 rfl) (by decide) ?_
                exact J176 mq51 _ _ ls (lv_sub hl [0, 2] rfl) hR hF
            · have hF := if_t c46 hF
              refine lv_aload_n hx hb (dk DX4_readSum 24 rfl) rfl (lv_at hl 0 rfl) ?_
              refine gX4_12 C hR ob52 rf52_7 (dk DX4_readSum 25 rfl) ?_
              refine lv_sipush (v := (1000 : Int32)) hx hb (dk DX4_readSum 26 rfl) (by decide) ?_
              obtain ⟨uq56, mq54, hzq55, hF⟩ := bnd_ex hF
              refine r_callVv (As := [.int (1000 : Int32)]) (rest := []) C hR (C_Lw_add l hl0 G (1000 : Int32) mq18 _ _ hzq55) (by decide) (by decide) ob57 rfl wX4_52 rfl rfl (Nat.le_of_ble_eq_true rfl) hl.1 ⟨Nat.zero_le _, Nat.zero_le _⟩ (dk DX4_readSum 27 rfl) (fun H locs hR => ?_)
              refine lv_goto (tgt := 176) hx hb (dk DX4_readSum 28 rfl) (by decide) ?_
              exact J176 mq54 _ _ ls (lv_sub hl [0, 2] rfl) hR hF
          · have hF := if_t c19 hF
            refine lv_aload_n hx hb (dk DX4_readSum 12 rfl) rfl (lv_at hl 0 rfl) ?_
            refine gX4_12 C hR ob52 rf52_7 (dk DX4_readSum 13 rfl) ?_
            refine lv_aload_n hx hb (dk DX4_readSum 14 rfl) rfl (lv_at hl 0 rfl) ?_
            refine lv_iconst (v := (0 : Int32)) hx hb (dk DX4_readSum 15 rfl) (by decide) ?_
            refine lv_sipush (v := (999 : Int32)) hx hb (dk DX4_readSum 16 rfl) (by decide) ?_
            obtain ⟨xq59, mq57, hzq58, hF⟩ := bnd_ex hF
            refine r_callUi (As := [.int (0 : Int32), .int (999 : Int32)]) (rest := [.ref (G.2.1 + 57)]) C hR (C_Tx_numberL l hl0 G (0 : Int32) (999 : Int32) mq6 _ _ hzq58) (by decide) (by decide) ob52 rfl wX4_38_4 rfl rfl (Nat.le_of_ble_eq_true rfl) hl.1 ⟨Nat.zero_le _, Nat.zero_le _⟩ (dk DX4_readSum 17 rfl) (fun H locs hR => ?_)
            obtain ⟨uq62, mq60, hzq61, hF⟩ := bnd_ex hF
            refine r_callVv (As := [.int xq59]) (rest := []) C hR (C_Lw_add l hl0 G xq59 mq57 _ _ hzq61) (by decide) (by decide) ob57 rfl wX4_52 rfl rfl (Nat.le_of_ble_eq_true rfl) hl.1 ⟨Nat.zero_le _, Nat.zero_le _⟩ (dk DX4_readSum 18 rfl) (fun H locs hR => ?_)
            refine lv_goto (tgt := 176) hx hb (dk DX4_readSum 19 rfl) (by decide) ?_
            exact J176 mq60 _ _ ls (lv_sub hl [0, 2] rfl) hR hF
  exact L4 1000000 true (0 : Int32) m0 _ _ ls (lv_sub hl [2, 1, 0] rfl) hR hF
set_option maxHeartbeats 4000000 in
set_option maxRecDepth 100000 in
theorem C_LT_readAtom_b (l : Launch) (hl0 : l.stackTraces = false) (G : GG) (D : Nat) (rc : Int32 → Mem → Option (Unit × Mem)) (hrc : ∀ (b0 : Int32) (m0 : Mem) (v : Unit) (m' : Mem), rc b0 m0 = some (v, m') → Ct l G mr0 N0 yX4_readAtom cX4_readAtom 3 none D [.ref (G.2.1 + 52), .int b0] m0 none m') (hD : 11 ≤ D) (a1 : Int32) (m0 : Mem) (v : Unit) (m' : Mem) (hF : F_LT_readAtom_b rc a1 m0 = some (v, m')) : Ct l G mr0 N0 yX4_readAtom cX4_readAtom 3 none (D + 3) [.ref (G.2.1 + 52), .int a1] m0 none m' := by
  refine Ct_of hl0 (by decide) (Nat.le_of_ble_eq_true rfl) ?_
  intro p e s mid args below meth c ls C hrt hl hR
  have hx := C.1.1
  have hb := C.1.2.1
  have hl : lv_has ls 3 [(0, .ref (G.2.1 + 52)), (1, .int a1)] := hl
  unfold F_LT_readAtom_b at hF
  refine lv_iload_n hx hb (dk DX4_readAtom 0 rfl) rfl (lv_at hl 1 rfl) ?_
  refine lv_bipush (v := (6 : Int32)) hx hb (dk DX4_readAtom 1 rfl) (by decide) ?_
  obtain ⟨k35_1, ek35_1, hF⟩ := lt_ex hF
  have J35 : ∀ (mq1 : Mem) (H : Heap) (locs : List Loc) (ls : Array Slot), lv_has ls 3 [(0, .ref (G.2.1 + 52)), (1, .int a1)] → Rp G mr0 N0 mq1 s H locs → k35_1  mq1 = some (v, m') → W p l e (rmD (D + 3)) s mid args below meth c H locs 0 0 (MQ below (QR G mr0 N0 none m') args s 0 0 (fun q => G.2.1 ≤ q)) (F0 mid 35 ls []) := by
    intro  mq1 H locs ls hl hR hF
    rw [ek35_1] at hF
    refine lv_iload_n hx hb (dk DX4_readAtom 17 rfl) rfl (lv_at hl 1 rfl) ?_
    refine lv_bipush (v := (6 : Int32)) hx hb (dk DX4_readAtom 18 rfl) (by decide) ?_
    obtain ⟨k73_2, ek73_2, hF⟩ := lt_ex hF
    have J73 : ∀ (mq2 : Mem) (H : Heap) (locs : List Loc) (ls : Array Slot), lv_has ls 3 [(0, .ref (G.2.1 + 52))] → Rp G mr0 N0 mq2 s H locs → k73_2  mq2 = some (v, m') → W p l e (rmD (D + 3)) s mid args below meth c H locs 0 0 (MQ below (QR G mr0 N0 none m') args s 0 0 (fun q => G.2.1 ≤ q)) (F0 mid 73 ls []) := by
      intro  mq2 H locs ls hl hR hF
      rw [ek73_2] at hF
      refine lv_aload_n hx hb (dk DX4_readAtom 36 rfl) rfl (lv_at hl 0 rfl) ?_
      refine r_lds C (strm_X4_74) (dk DX4_readAtom 37 rfl) ?_
      obtain ⟨zq5, mq3, hzq4, hF⟩ := bnd_ex hF
      refine r_callUi (As := [.ref (G.2.2.2.2.2.2 ("cloud"))]) (rest := []) C hR (C_Tx_takesWordL l hl0 G ("cloud") mq2 txm_7 _ _ hzq4) (by omega) (by decide) ob52 rfl wX4_44_4 rfl rfl (Nat.le_of_ble_eq_true rfl) hl.1 ⟨Nat.zero_le _, Nat.zero_le _⟩ (dk DX4_readAtom 38 rfl) (fun H locs hR => ?_)
      refine z_ifeq (tgt := 95) hx hb (dk DX4_readAtom 39 rfl) (by decide) (fun c79 => ?_) (fun c79 => ?_)
      · have hF := if_f c79 hF
        refine lv_aload_n hx hb (dk DX4_readAtom 45 rfl) rfl (lv_at hl 0 rfl) ?_
        refine r_lds C (strm_X4_76) (dk DX4_readAtom 46 rfl) ?_
        obtain ⟨zq8, mq6, hzq7, hF⟩ := bnd_ex hF
        refine r_callUi (As := [.ref (G.2.2.2.2.2.2 ("tide"))]) (rest := []) C hR (C_Tx_takesWordL l hl0 G ("tide") mq3 txm_8 _ _ hzq7) (by omega) (by decide) ob52 rfl wX4_44_4 rfl rfl (Nat.le_of_ble_eq_true rfl) hl.1 ⟨Nat.zero_le _, Nat.zero_le _⟩ (dk DX4_readAtom 47 rfl) (fun H locs hR => ?_)
        refine z_ifeq (tgt := 117) hx hb (dk DX4_readAtom 48 rfl) (by decide) (fun c101 => ?_) (fun c101 => ?_)
        · have hF := if_f c101 hF
          refine lv_aload_n hx hb (dk DX4_readAtom 54 rfl) rfl (lv_at hl 0 rfl) ?_
          obtain ⟨uq11, mq9, hzq10, hF⟩ := bnd_ex hF
          refine r_callVv (As := []) (rest := []) C hR (C_LT_readSum l hl0 G mq6 _ _ hzq10) (by omega) (by decide) ob52 rfl wX4_78 rfl rfl (Nat.le_of_ble_eq_true rfl) hl.1 ⟨Nat.zero_le _, Nat.zero_le _⟩ (dk DX4_readAtom 55 rfl) (fun H locs hR => ?_)
          refine lv_aload_n hx hb (dk DX4_readAtom 56 rfl) rfl (lv_at hl 0 rfl) ?_
          refine lv_bipush (v := (60 : Int32)) hx hb (dk DX4_readAtom 57 rfl) (by decide) ?_
          obtain ⟨zq14, mq12, hzq13, hF⟩ := bnd_ex hF
          refine r_callUi (As := [.int (60 : Int32)]) (rest := []) C hR (C_Tx_takesSignL l hl0 G (60 : Int32) mq9 _ _ hzq13) (by omega) (by decide) ob52 rfl wX4_67_4 rfl rfl (Nat.le_of_ble_eq_true rfl) hl.1 ⟨Nat.zero_le _, Nat.zero_le _⟩ (dk DX4_readAtom 58 rfl) (fun H locs hR => ?_)
          refine lv_istore_n (lv' := [(2, .int (b2i zq14)), (0, .ref (G.2.1 + 52))]) hx hb (dk DX4_readAtom 59 rfl) rfl hl (by decide) rfl (fun ls hl => ?_)
          refine lv_iload_n hx hb (dk DX4_readAtom 60 rfl) rfl (lv_at hl 0 rfl) ?_
          obtain ⟨k145_15, ek145_15, hF⟩ := lt_ex hF
          have J145 : ∀ (mq15 : Mem) (H : Heap) (locs : List Loc) (ls : Array Slot), lv_has ls 3 [(0, .ref (G.2.1 + 52)), (2, .int (b2i zq14))] → Rp G mr0 N0 mq15 s H locs → k145_15  mq15 = some (v, m') → W p l e (rmD (D + 3)) s mid args below meth c H locs 0 0 (MQ below (QR G mr0 N0 none m') args s 0 0 (fun q => G.2.1 ≤ q)) (F0 mid 145 ls []) := by
            intro  mq15 H locs ls hl hR hF
            rw [ek145_15] at hF
            refine lv_aload_n hx hb (dk DX4_readAtom 68 rfl) rfl (lv_at hl 0 rfl) ?_
            obtain ⟨uq18, mq16, hzq17, hF⟩ := bnd_ex hF
            refine r_callVv (As := []) (rest := []) C hR (C_LT_readSum l hl0 G mq15 _ _ hzq17) (by omega) (by decide) ob52 rfl wX4_78 rfl rfl (Nat.le_of_ble_eq_true rfl) hl.1 ⟨Nat.zero_le _, Nat.zero_le _⟩ (dk DX4_readAtom 69 rfl) (fun H locs hR => ?_)
            refine lv_aload_n hx hb (dk DX4_readAtom 70 rfl) rfl (lv_at hl 0 rfl) ?_
            refine gX4_12 C hR ob52 rf52_7 (dk DX4_readAtom 71 rfl) ?_
            refine lv_iload_n hx hb (dk DX4_readAtom 72 rfl) rfl (lv_at hl 1 rfl) ?_
            obtain ⟨k166_20, ek166_20, hF⟩ := lt_ex hF
            have J166 : ∀ (xq20 : Int32) (mq19 : Mem) (H : Heap) (locs : List Loc) (ls : Array Slot), lv_has ls 3 [] → Rp G mr0 N0 mq19 s H locs → k166_20 xq20 mq19 = some (v, m') → W p l e (rmD (D + 3)) s mid args below meth c H locs 0 0 (MQ below (QR G mr0 N0 none m') args s 0 0 (fun q => G.2.1 ≤ q)) (F0 mid 166 ls [.int xq20, .ref (G.2.1 + 57)]) := by
              intro xq20 mq19 H locs ls hl hR hF
              rw [ek166_20] at hF
              obtain ⟨uq23, mq21, hzq22, hF⟩ := bnd_ex hF
              refine r_callVv (As := [.int xq20]) (rest := []) C hR (C_Lw_add l hl0 G xq20 mq19 _ _ hzq22) (by omega) (by decide) ob57 rfl wX4_52 rfl rfl (Nat.le_of_ble_eq_true rfl) hl.1 ⟨Nat.zero_le _, Nat.zero_le _⟩ (dk DX4_readAtom 77 rfl) (fun H locs hR => ?_)
              cases hF
              exact r_vret C hrt hR (dk DX4_readAtom 78 rfl)
            refine z_ifeq (tgt := 163) hx hb (dk DX4_readAtom 73 rfl) (by decide) (fun c154 => ?_) (fun c154 => ?_)
            · have hF := if_f c154 hF
              refine lv_sipush (v := (1104 : Int32)) hx hb (dk DX4_readAtom 76 rfl) (by decide) ?_
              exact J166 (1104 : Int32) mq16 _ _ ls (lv_sub hl [] rfl) hR hF
            · have hF := if_t c154 hF
              refine lv_sipush (v := (1103 : Int32)) hx hb (dk DX4_readAtom 74 rfl) (by decide) ?_
              refine lv_goto (tgt := 166) hx hb (dk DX4_readAtom 75 rfl) (by decide) ?_
              exact J166 (1103 : Int32) mq16 _ _ ls (lv_sub hl [] rfl) hR hF
          refine z_ifne (tgt := 145) hx hb (dk DX4_readAtom 61 rfl) (by decide) (fun c129 => ?_) (fun c129 => ?_)
          · have hF := if_t c129 hF
            exact J145 mq12 _ _ ls (lv_sub hl [1, 0] rfl) hR hF
          · have hF := if_f c129 hF
            refine lv_aload_n hx hb (dk DX4_readAtom 62 rfl) rfl (lv_at hl 1 rfl) ?_
            refine lv_bipush (v := (62 : Int32)) hx hb (dk DX4_readAtom 63 rfl) (by decide) ?_
            obtain ⟨zq26, mq24, hzq25, hF⟩ := bnd_ex hF
            refine r_callUi (As := [.int (62 : Int32)]) (rest := []) C hR (C_Tx_takesSignL l hl0 G (62 : Int32) mq12 _ _ hzq25) (by omega) (by decide) ob52 rfl wX4_67_4 rfl rfl (Nat.le_of_ble_eq_true rfl) hl.1 ⟨Nat.zero_le _, Nat.zero_le _⟩ (dk DX4_readAtom 64 rfl) (fun H locs hR => ?_)
            refine z_ifne (tgt := 145) hx hb (dk DX4_readAtom 65 rfl) (by decide) (fun c138 => ?_) (fun c138 => ?_)
            · have hF := if_t c138 hF
              exact J145 mq24 _ _ ls (lv_sub hl [1, 0] rfl) hR hF
            · have hF := if_f c138 hF
              refine lv_aload_n hx hb (dk DX4_readAtom 66 rfl) rfl (lv_at hl 1 rfl) ?_
              obtain ⟨uq29, mq27, hzq28, hF⟩ := bnd_ex hF
              refine r_callUv (As := []) (rest := []) C hR (C_Tx_setWrongL l hl0 G mq24 _ _ hzq28) (by omega) (by decide) ob52 rfl wX4_71_4 rfl rfl (Nat.le_of_ble_eq_true rfl) hl.1 ⟨Nat.zero_le _, Nat.zero_le _⟩ (dk DX4_readAtom 67 rfl) (fun H locs hR => ?_)
              exact J145 mq27 _ _ ls (lv_sub hl [1, 0] rfl) hR hF
        · have hF := if_t c101 hF
          refine lv_aload_n hx hb (dk DX4_readAtom 49 rfl) rfl (lv_at hl 0 rfl) ?_
          refine gX4_12 C hR ob52 rf52_7 (dk DX4_readAtom 50 rfl) ?_
          refine lv_sipush (v := (1007 : Int32)) hx hb (dk DX4_readAtom 51 rfl) (by decide) ?_
          obtain ⟨uq32, mq30, hzq31, hF⟩ := bnd_ex hF
          refine r_callVv (As := [.int (1007 : Int32)]) (rest := []) C hR (C_Lw_add l hl0 G (1007 : Int32) mq6 _ _ hzq31) (by omega) (by decide) ob57 rfl wX4_52 rfl rfl (Nat.le_of_ble_eq_true rfl) hl.1 ⟨Nat.zero_le _, Nat.zero_le _⟩ (dk DX4_readAtom 52 rfl) (fun H locs hR => ?_)
          refine lv_goto (tgt := 169) hx hb (dk DX4_readAtom 53 rfl) (by decide) ?_
          cases hF
          exact r_vret C hrt hR (dk DX4_readAtom 78 rfl)
      · have hF := if_t c79 hF
        refine lv_aload_n hx hb (dk DX4_readAtom 40 rfl) rfl (lv_at hl 0 rfl) ?_
        refine gX4_12 C hR ob52 rf52_7 (dk DX4_readAtom 41 rfl) ?_
        refine lv_sipush (v := (1006 : Int32)) hx hb (dk DX4_readAtom 42 rfl) (by decide) ?_
        obtain ⟨uq35, mq33, hzq34, hF⟩ := bnd_ex hF
        refine r_callVv (As := [.int (1006 : Int32)]) (rest := []) C hR (C_Lw_add l hl0 G (1006 : Int32) mq3 _ _ hzq34) (by omega) (by decide) ob57 rfl wX4_52 rfl rfl (Nat.le_of_ble_eq_true rfl) hl.1 ⟨Nat.zero_le _, Nat.zero_le _⟩ (dk DX4_readAtom 43 rfl) (fun H locs hR => ?_)
        refine lv_goto (tgt := 169) hx hb (dk DX4_readAtom 44 rfl) (by decide) ?_
        cases hF
        exact r_vret C hrt hR (dk DX4_readAtom 78 rfl)
    refine lv_icmp_ge (tgt := 73) hx hb (dk DX4_readAtom 19 rfl) (by decide) (fun c38 => ?_) (fun c38 => ?_)
    · have hF := if_t c38 hF
      exact J73 mq1 _ _ ls (lv_sub hl [0] rfl) hR hF
    · have hF := if_f c38 hF
      refine lv_aload_n hx hb (dk DX4_readAtom 20 rfl) rfl (lv_at hl 0 rfl) ?_
      refine lv_bipush (v := (40 : Int32)) hx hb (dk DX4_readAtom 21 rfl) (by decide) ?_
      obtain ⟨zq38, mq36, hzq37, hF⟩ := bnd_ex hF
      refine r_callUi (As := [.int (40 : Int32)]) (rest := []) C hR (C_Tx_takesSignL l hl0 G (40 : Int32) mq1 _ _ hzq37) (by omega) (by decide) ob52 rfl wX4_67_4 rfl rfl (Nat.le_of_ble_eq_true rfl) hl.1 ⟨Nat.zero_le _, Nat.zero_le _⟩ (dk DX4_readAtom 22 rfl) (fun H locs hR => ?_)
      refine z_ifeq (tgt := 73) hx hb (dk DX4_readAtom 23 rfl) (by decide) (fun c47 => ?_) (fun c47 => ?_)
      · have hF := if_f c47 hF
        exact J73 mq36 _ _ ls (lv_sub hl [0] rfl) hR hF
      · have hF := if_t c47 hF
        refine lv_aload_n hx hb (dk DX4_readAtom 24 rfl) rfl (lv_at hl 0 rfl) ?_
        refine lv_iload_n hx hb (dk DX4_readAtom 25 rfl) rfl (lv_at hl 1 rfl) ?_
        refine lv_iconst (v := (1 : Int32)) hx hb (dk DX4_readAtom 26 rfl) (by decide) ?_
        refine lv_iadd hx hb (dk DX4_readAtom 27 rfl) ?_
        obtain ⟨uq41, mq39, hzq40, hF⟩ := bnd_ex hF
        refine r_callVv (As := [.int (a1 + (1 : Int32))]) (rest := []) C hR (C_LT_readAny l hl0 G D rc hrc (by omega) (a1 + (1 : Int32)) mq36 _ _ hzq40) (by omega) (by decide) ob52 rfl wX4_48 rfl rfl (Nat.le_of_ble_eq_true rfl) hl.1 ⟨Nat.zero_le _, Nat.zero_le _⟩ (dk DX4_readAtom 28 rfl) (fun H locs hR => ?_)
        refine lv_aload_n hx hb (dk DX4_readAtom 29 rfl) rfl (lv_at hl 0 rfl) ?_
        refine lv_bipush (v := (41 : Int32)) hx hb (dk DX4_readAtom 30 rfl) (by decide) ?_
        obtain ⟨zq44, mq42, hzq43, hF⟩ := bnd_ex hF
        refine r_callUi (As := [.int (41 : Int32)]) (rest := []) C hR (C_Tx_takesSignL l hl0 G (41 : Int32) mq39 _ _ hzq43) (by omega) (by decide) ob52 rfl wX4_67_4 rfl rfl (Nat.le_of_ble_eq_true rfl) hl.1 ⟨Nat.zero_le _, Nat.zero_le _⟩ (dk DX4_readAtom 31 rfl) (fun H locs hR => ?_)
        refine z_ifne (tgt := 169) hx hb (dk DX4_readAtom 32 rfl) (by decide) (fun c63 => ?_) (fun c63 => ?_)
        · have hF := if_t c63 hF
          cases hF
          exact r_vret C hrt hR (dk DX4_readAtom 78 rfl)
        · have hF := if_f c63 hF
          refine lv_aload_n hx hb (dk DX4_readAtom 33 rfl) rfl (lv_at hl 0 rfl) ?_
          obtain ⟨uq47, mq45, hzq46, hF⟩ := bnd_ex hF
          refine r_callUv (As := []) (rest := []) C hR (C_Tx_setWrongL l hl0 G mq42 _ _ hzq46) (by omega) (by decide) ob52 rfl wX4_71_4 rfl rfl (Nat.le_of_ble_eq_true rfl) hl.1 ⟨Nat.zero_le _, Nat.zero_le _⟩ (dk DX4_readAtom 34 rfl) (fun H locs hR => ?_)
          refine lv_goto (tgt := 169) hx hb (dk DX4_readAtom 35 rfl) (by decide) ?_
          cases hF
          exact r_vret C hrt hR (dk DX4_readAtom 78 rfl)
  refine lv_icmp_ge (tgt := 35) hx hb (dk DX4_readAtom 2 rfl) (by decide) (fun c3 => ?_) (fun c3 => ?_)
  · have hF := if_t c3 hF
    exact J35 m0 _ _ ls (lv_sub hl [0, 1] rfl) hR hF
  · have hF := if_f c3 hF
    refine lv_aload_n hx hb (dk DX4_readAtom 3 rfl) rfl (lv_at hl 0 rfl) ?_
    refine r_lds C (strm_X4_65) (dk DX4_readAtom 4 rfl) ?_
    obtain ⟨zq50, mq48, hzq49, hF⟩ := bnd_ex hF
    refine r_callUi (As := [.ref (G.2.2.2.2.2.2 ("not"))]) (rest := []) C hR (C_Tx_takesWordL l hl0 G ("not") m0 txm_15 _ _ hzq49) (by omega) (by decide) ob52 rfl wX4_44_4 rfl rfl (Nat.le_of_ble_eq_true rfl) hl.1 ⟨Nat.zero_le _, Nat.zero_le _⟩ (dk DX4_readAtom 5 rfl) (fun H locs hR => ?_)
    refine z_ifeq (tgt := 35) hx hb (dk DX4_readAtom 6 rfl) (by decide) (fun c12 => ?_) (fun c12 => ?_)
    · have hF := if_f c12 hF
      exact J35 mq48 _ _ ls (lv_sub hl [0, 1] rfl) hR hF
    · have hF := if_t c12 hF
      refine lv_aload_n hx hb (dk DX4_readAtom 7 rfl) rfl (lv_at hl 0 rfl) ?_
      refine lv_iload_n hx hb (dk DX4_readAtom 8 rfl) rfl (lv_at hl 1 rfl) ?_
      refine lv_iconst (v := (1 : Int32)) hx hb (dk DX4_readAtom 9 rfl) (by decide) ?_
      refine lv_iadd hx hb (dk DX4_readAtom 10 rfl) ?_
      obtain ⟨uq53, mq51, hzq52, hF⟩ := bnd_ex hF
      refine r_callVv (As := [.int (a1 + (1 : Int32))]) (rest := []) C hR (hrc (a1 + (1 : Int32)) mq48 _ _ hzq52) (by omega) (by decide) ob52 rfl wX4_60 rfl rfl (Nat.le_of_ble_eq_true rfl) hl.1 ⟨Nat.zero_le _, Nat.zero_le _⟩ (dk DX4_readAtom 11 rfl) (fun H locs hR => ?_)
      refine lv_aload_n hx hb (dk DX4_readAtom 12 rfl) rfl (lv_at hl 0 rfl) ?_
      refine gX4_12 C hR ob52 rf52_7 (dk DX4_readAtom 13 rfl) ?_
      refine lv_sipush (v := (1100 : Int32)) hx hb (dk DX4_readAtom 14 rfl) (by decide) ?_
      obtain ⟨uq56, mq54, hzq55, hF⟩ := bnd_ex hF
      refine r_callVv (As := [.int (1100 : Int32)]) (rest := []) C hR (C_Lw_add l hl0 G (1100 : Int32) mq51 _ _ hzq55) (by omega) (by decide) ob57 rfl wX4_52 rfl rfl (Nat.le_of_ble_eq_true rfl) hl.1 ⟨Nat.zero_le _, Nat.zero_le _⟩ (dk DX4_readAtom 15 rfl) (fun H locs hR => ?_)
      refine lv_goto (tgt := 169) hx hb (dk DX4_readAtom 16 rfl) (by decide) ?_
      cases hF
      exact r_vret C hrt hR (dk DX4_readAtom 78 rfl)
theorem C_LT_readAtom (l : Launch) (hl0 : l.stackTraces = false) (G : GG) : ∀ (k : Nat) (a1 : Int32) (m0 : Mem) (v : Unit) (m' : Mem), F_LT_readAtom k a1 m0 = some (v, m') → Ct l G mr0 N0 yX4_readAtom cX4_readAtom 3 none (12 + 3 * k) [.ref (G.2.1 + 52), .int a1] m0 none m'
  | 0, a1, m0, v, m', h => by rw [F_LT_readAtom] at h; cases h
  | k + 1, a1, m0, v, m', h => by
    rw [F_LT_readAtom] at h
    have := C_LT_readAtom_b l hl0 G (12 + 3 * k) (F_LT_readAtom k) (fun b0 m1 v1 m2 h1 => C_LT_readAtom l hl0 G k b0 m1 v1 m2 h1) (by omega) a1 m0 v m' h
    rw [show 12 + 3 * (k + 1) = 12 + 3 * k + 3 by omega]
    exact this
