set_option maxHeartbeats 4000000 in
set_option maxRecDepth 100000 in
theorem C_M_isFollowed (l : Launch) (hl0 : l.stackTraces = false) (G : GG) (m0 : Mem) (v : Bool) (m' : Mem) (hF : F_M_isFollowed m0 = some (v, m')) : Ct l G mr0 N0 yX11_isFollowed cX11_isFollowed 1 (some .boolean) 1 [.ref (G.2.1 + 78)] m0 (some (.int (b2i v))) m' := by
  refine Ct_of hl0 (by decide) (Nat.le_of_ble_eq_true rfl) ?_
  intro p e s mid args below meth c ls C hrt hl hR
  have hx := C.1.1
  have hb := C.1.2.1
  have hl : lv_has ls 1 [(0, .ref (G.2.1 + 78))] := hl
  unfold F_M_isFollowed at hF
  refine lv_aload_n hx hb (dk DX11_isFollowed 0 rfl) rfl (lv_at hl 0 rfl) ?_
  refine gX11_13 C hR ob78 rf78_1 (dk DX11_isFollowed 1 rfl) ?_
  refine lv_bipush (v := (12 : Int32)) hx hb (dk DX11_isFollowed 2 rfl) (by decide) ?_
  refine r_iald C hR ob79 rfl (dk DX11_isFollowed 3 rfl) ?_
  refine lv_iconst (v := (1 : Int32)) hx hb (dk DX11_isFollowed 4 rfl) (by decide) ?_
  refine lv_icmp_ne (tgt := 15) hx hb (dk DX11_isFollowed 5 rfl) (by decide) (fun c8 => ?_) (fun c8 => ?_)
  · have hF := if_f c8 hF
    refine lv_iconst (v := (0 : Int32)) hx hb (dk DX11_isFollowed 8 rfl) (by decide) ?_
    cases hF
    exact r_zret (v := false) C hrt hR (dk DX11_isFollowed 9 rfl)
  · have hF := if_t c8 hF
    refine lv_iconst (v := (1 : Int32)) hx hb (dk DX11_isFollowed 6 rfl) (by decide) ?_
    refine lv_goto (tgt := 16) hx hb (dk DX11_isFollowed 7 rfl) (by decide) ?_
    cases hF
    exact r_zret (v := true) C hrt hR (dk DX11_isFollowed 9 rfl)
set_option maxHeartbeats 4000000 in
set_option maxRecDepth 100000 in
theorem C_M_batting (l : Launch) (hl0 : l.stackTraces = false) (G : GG) (a0 : Int32) (a1 : Int32) (a2 : Bool) (m0 : Mem) (v : Int32) (m' : Mem) (hF : F_M_batting a0 a1 a2 m0 = some (v, m')) : Ct l G mr0 N0 yX11_batting cX11_batting 3 (some .int) 1 [.int a0, .int a1, .int (b2i a2)] m0 (some (.int v)) m' := by
  refine Ct_of hl0 (by decide) (Nat.le_of_ble_eq_true rfl) ?_
  intro p e s mid args below meth c ls C hrt hl hR
  have hx := C.1.1
  have hb := C.1.2.1
  have hl : lv_has ls 3 [(0, .int a0), (1, .int a1), (2, .int (b2i a2))] := hl
  unfold F_M_batting at hF
  refine lv_iload_n hx hb (dk DX11_batting 0 rfl) rfl (lv_at hl 1 rfl) ?_
  obtain ⟨k14_2, ek14_2, hF⟩ := lt_ex hF
  have J14 : ∀ (z2 : Bool) (m1 : Mem) (H : Heap) (locs : List Loc) (ls : Array Slot), lv_has ls 3 [(0, .int a0), (2, .int (b2i a2))] → Rp G mr0 N0 m1 s H locs → k14_2 z2 m1 = some (v, m') → W p l e (rmD 1) s mid args below meth c H locs 0 0 (MQ below (QR G mr0 N0 (some (.int v)) m') args s 0 0 (fun q => G.2.1 ≤ q)) (F0 mid 14 ls [.int (b2i z2)]) := by
    intro z2 m1 H locs ls hl hR hF
    rw [ek14_2] at hF
    refine lv_iload_n hx hb (dk DX11_batting 8 rfl) rfl (lv_at hl 1 rfl) ?_
    refine lv_icmp_eq (tgt := 22) hx hb (dk DX11_batting 9 rfl) (by decide) (fun c15 => ?_) (fun c15 => ?_)
    · have hF := if_t c15 hF
      refine lv_iconst (v := (1 : Int32)) hx hb (dk DX11_batting 12 rfl) (by decide) ?_
      refine lv_iload_n hx hb (dk DX11_batting 13 rfl) rfl (lv_at hl 0 rfl) ?_
      refine lv_isub hx hb (dk DX11_batting 14 rfl) ?_
      cases hF
      exact r_iret (v := (1 : Int32) - a0) C hrt hR (dk DX11_batting 15 rfl)
    · have hF := if_f c15 hF
      refine lv_iload_n hx hb (dk DX11_batting 10 rfl) rfl (lv_at hl 0 rfl) ?_
      refine lv_goto (tgt := 25) hx hb (dk DX11_batting 11 rfl) (by decide) ?_
      cases hF
      exact r_iret (v := a0) C hrt hR (dk DX11_batting 15 rfl)
  obtain ⟨k9_3, ek9_3, hF⟩ := lt_ex hF
  have J9 : ∀ (m3 : Mem) (H : Heap) (locs : List Loc) (ls : Array Slot), lv_has ls 3 [(0, .int a0), (2, .int (b2i a2))] → Rp G mr0 N0 m3 s H locs → k9_3  m3 = some (v, m') → W p l e (rmD 1) s mid args below meth c H locs 0 0 (MQ below (QR G mr0 N0 (some (.int v)) m') args s 0 0 (fun q => G.2.1 ≤ q)) (F0 mid 9 ls []) := by
    intro  m3 H locs ls hl hR hF
    rw [ek9_3] at hF
    refine lv_iconst (v := (1 : Int32)) hx hb (dk DX11_batting 5 rfl) (by decide) ?_
    refine lv_goto (tgt := 14) hx hb (dk DX11_batting 6 rfl) (by decide) ?_
    exact J14 true m3 _ _ ls (lv_sub hl [0, 1] rfl) hR hF
  refine lv_if_eq (tgt := 9) hx hb (dk DX11_batting 1 rfl) (by decide) (fun c1 => ?_) (fun c1 => ?_)
  · have hF := if_t c1 hF
    exact J9 m0 _ _ ls (lv_sub hl [0, 2] rfl) hR hF
  · have hF := if_f c1 hF
    refine lv_iload_n hx hb (dk DX11_batting 2 rfl) rfl (lv_at hl 1 rfl) ?_
    refine lv_iconst (v := (2 : Int32)) hx hb (dk DX11_batting 3 rfl) (by decide) ?_
    refine lv_icmp_ne (tgt := 13) hx hb (dk DX11_batting 4 rfl) (by decide) (fun c6 => ?_) (fun c6 => ?_)
    · have hF := if_f c6 hF
      refine lv_iconst (v := (0 : Int32)) hx hb (dk DX11_batting 7 rfl) (by decide) ?_
      exact J14 false m0 _ _ ls (lv_sub hl [0, 2] rfl) hR hF
    · have hF := if_t c6 hF
      exact J9 m0 _ _ ls (lv_sub hl [0, 2] rfl) hR hF
set_option maxHeartbeats 4000000 in
set_option maxRecDepth 100000 in
theorem C_M_batter (l : Launch) (hl0 : l.stackTraces = false) (G : GG) (m0 : Mem) (v : Int32) (m' : Mem) (hF : F_M_batter m0 = some (v, m')) : Ct l G mr0 N0 yX11_batter cX11_batter 1 (some .int) 2 [.ref (G.2.1 + 78)] m0 (some (.int v)) m' := by
  refine Ct_of hl0 (by decide) (Nat.le_of_ble_eq_true rfl) ?_
  intro p e s mid args below meth c ls C hrt hl hR
  have hx := C.1.1
  have hb := C.1.2.1
  have hl : lv_has ls 1 [(0, .ref (G.2.1 + 78))] := hl
  unfold F_M_batter at hF
  refine lv_aload_n hx hb (dk DX11_batter 0 rfl) rfl (lv_at hl 0 rfl) ?_
  obtain ⟨x3, m1, hz2, hF⟩ := bnd_ex hF
  refine r_callVi (As := []) (rest := []) C hR (C_M_firstSide l hl0 G m0 _ _ hz2) (by decide) (by decide) ob78 rfl wX11_265 rfl rfl (Nat.le_of_ble_eq_true rfl) hl.1 ⟨Nat.zero_le _, Nat.zero_le _⟩ (dk DX11_batter 1 rfl) (fun H locs hR => ?_)
  refine lv_aload_n hx hb (dk DX11_batter 2 rfl) rfl (lv_at hl 0 rfl) ?_
  refine gX11_13 C hR ob78 rf78_1 (dk DX11_batter 3 rfl) ?_
  refine lv_bipush (v := (11 : Int32)) hx hb (dk DX11_batter 4 rfl) (by decide) ?_
  refine r_iald C hR ob79 rfl (dk DX11_batter 5 rfl) ?_
  refine lv_aload_n hx hb (dk DX11_batter 6 rfl) rfl (lv_at hl 0 rfl) ?_
  obtain ⟨z6, m4, hz5, hF⟩ := bnd_ex hF
  refine r_callVi (As := []) (rest := [.int (gI m1 79 11), .int x3]) C hR (C_M_isFollowed l hl0 G m1 _ _ hz5) (by decide) (by decide) ob78 rfl wX11_268 rfl rfl (Nat.le_of_ble_eq_true rfl) hl.1 ⟨Nat.zero_le _, Nat.zero_le _⟩ (dk DX11_batter 7 rfl) (fun H locs hR => ?_)
  obtain ⟨x9, m7, hz8, hF⟩ := bnd_ex hF
  refine r_callSi (As := [.int x3, .int (gI m1 79 11), .int (b2i z6)]) (rest := []) C hR (C_M_batting l hl0 G x3 (gI m1 79 11) z6 m4 _ _ hz8) (by decide) (by decide) wX11_271 rfl rfl (Nat.le_of_ble_eq_true rfl) hl.1 ⟨Nat.zero_le _, Nat.zero_le _⟩ (dk DX11_batter 8 rfl) (fun H locs hR => ?_)
  cases hF
  exact r_iret (v := x9) C hrt hR (dk DX11_batter 9 rfl)
set_option maxHeartbeats 4000000 in
set_option maxRecDepth 100000 in
theorem C_M_leadOf (l : Launch) (hl0 : l.stackTraces = false) (G : GG) (a1 : Int32) (m0 : Mem) (v : Int32) (m' : Mem) (hF : F_M_leadOf a1 m0 = some (v, m')) : Ct l G mr0 N0 yX11_leadOf cX11_leadOf 2 (some .int) 1 [.ref (G.2.1 + 78), .int a1] m0 (some (.int v)) m' := by
  refine Ct_of hl0 (by decide) (Nat.le_of_ble_eq_true rfl) ?_
  intro p e s mid args below meth c ls C hrt hl hR
  have hx := C.1.1
  have hb := C.1.2.1
  have hl : lv_has ls 2 [(0, .ref (G.2.1 + 78)), (1, .int a1)] := hl
  unfold F_M_leadOf at hF
  refine lv_aload_n hx hb (dk DX11_leadOf 0 rfl) rfl (lv_at hl 0 rfl) ?_
  refine gX11_13 C hR ob78 rf78_1 (dk DX11_leadOf 1 rfl) ?_
  refine lv_bipush (v := (15 : Int32)) hx hb (dk DX11_leadOf 2 rfl) (by decide) ?_
  refine lv_iload_n hx hb (dk DX11_leadOf 3 rfl) rfl (lv_at hl 1 rfl) ?_
  refine lv_iadd hx hb (dk DX11_leadOf 4 rfl) ?_
  obtain ⟨h1, hF⟩ := ckB_ex hF
  refine r_iald C hR ob79 h1 (dk DX11_leadOf 5 rfl) ?_
  refine lv_topi (fun x2 ex2 => ?_)
  have hF := lt_at ex2 hF
  refine lv_aload_n hx hb (dk DX11_leadOf 6 rfl) rfl (lv_at hl 0 rfl) ?_
  refine gX11_13 C hR ob78 rf78_1 (dk DX11_leadOf 7 rfl) ?_
  refine lv_bipush (v := (16 : Int32)) hx hb (dk DX11_leadOf 8 rfl) (by decide) ?_
  refine lv_iload_n hx hb (dk DX11_leadOf 9 rfl) rfl (lv_at hl 1 rfl) ?_
  refine lv_isub hx hb (dk DX11_leadOf 10 rfl) ?_
  obtain ⟨h3, hF⟩ := ckB_ex hF
  refine r_iald C hR ob79 h3 (dk DX11_leadOf 11 rfl) ?_
  refine lv_topi (fun x4 ex4 => ?_)
  have hF := lt_at ex4 hF
  refine lv_isub hx hb (dk DX11_leadOf 12 rfl) ?_
  cases hF
  exact r_iret (v := x2 - x4) C hrt hR (dk DX11_leadOf 13 rfl)
set_option maxHeartbeats 4000000 in
set_option maxRecDepth 100000 in
theorem C_M_mostRuns (l : Launch) (hl0 : l.stackTraces = false) (G : GG) (m0 : Mem) (v : Int32) (m' : Mem) (hF : F_M_mostRuns m0 = some (v, m')) : Ct l G mr0 N0 yX11_mostRuns cX11_mostRuns 3 (some .int) 1 [.ref (G.2.1 + 78)] m0 (some (.int v)) m' := by
  refine Ct_of hl0 (by decide) (Nat.le_of_ble_eq_true rfl) ?_
  intro p e s mid args below meth c ls C hrt hl hR
  have hx := C.1.1
  have hb := C.1.2.1
  have hl : lv_has ls 3 [(0, .ref (G.2.1 + 78))] := hl
  unfold F_M_mostRuns at hF
  refine lv_iconst (v := (0 : Int32)) hx hb (dk DX11_mostRuns 0 rfl) (by decide) ?_
  refine lv_istore_n (lv' := [(1, .int (0 : Int32)), (0, .ref (G.2.1 + 78))]) hx hb (dk DX11_mostRuns 1 rfl) rfl hl (by decide) rfl (fun ls hl => ?_)
  refine lv_iconst (v := (0 : Int32)) hx hb (dk DX11_mostRuns 2 rfl) (by decide) ?_
  refine lv_istore_n (lv' := [(2, .int (0 : Int32)), (1, .int (0 : Int32)), (0, .ref (G.2.1 + 78))]) hx hb (dk DX11_mostRuns 3 rfl) rfl hl (by decide) rfl (fun ls hl => ?_)
  have L4 : ∀ (nf : Nat) (x2 : Int32) (x3 : Int32) (m1 : Mem) (H : Heap) (locs : List Loc) (ls : Array Slot), lv_has ls 3 [(0, .ref (G.2.1 + 78)), (1, .int x2), (2, .int x3)] → Rp G mr0 N0 m1 s H locs → F_M_mostRuns_L4 nf x2 x3 m1 = some (v, m') → W p l e (rmD 1) s mid args below meth c H locs 0 0 (MQ below (QR G mr0 N0 (some (.int v)) m') args s 0 0 (fun q => G.2.1 ≤ q)) (F0 mid 4 ls []) := by
    intro nf
    induction nf with
    | zero =>
      intro x2 x3 m1 H locs ls hl hR hF
      rw [F_M_mostRuns_L4] at hF
      cases hF
    | succ nf ih5 =>
      intro x2 x3 m1 H locs ls hl hR hF
      rw [F_M_mostRuns_L4] at hF
      refine lv_iload_n hx hb (dk DX11_mostRuns 4 rfl) rfl (lv_at hl 2 rfl) ?_
      refine lv_bipush (v := (16 : Int32)) hx hb (dk DX11_mostRuns 5 rfl) (by decide) ?_
      refine lv_icmp_ge (tgt := 32) hx hb (dk DX11_mostRuns 6 rfl) (by decide) (fun c7 => ?_) (fun c7 => ?_)
      · have hF := if_t c7 hF
        refine lv_iload_n hx hb (dk DX11_mostRuns 20 rfl) rfl (lv_at hl 1 rfl) ?_
        cases hF
        exact r_iret (v := x2) C hrt hR (dk DX11_mostRuns 21 rfl)
      · have hF := if_f c7 hF
        refine lv_iload_n hx hb (dk DX11_mostRuns 7 rfl) rfl (lv_at hl 1 rfl) ?_
        refine lv_aload_n hx hb (dk DX11_mostRuns 8 rfl) rfl (lv_at hl 0 rfl) ?_
        refine gX11_13 C hR ob78 rf78_1 (dk DX11_mostRuns 9 rfl) ?_
        refine lv_bipush (v := (23 : Int32)) hx hb (dk DX11_mostRuns 10 rfl) (by decide) ?_
        refine lv_iconst (v := (2 : Int32)) hx hb (dk DX11_mostRuns 11 rfl) (by decide) ?_
        refine lv_iload_n hx hb (dk DX11_mostRuns 12 rfl) rfl (lv_at hl 2 rfl) ?_
        refine lv_imul hx hb (dk DX11_mostRuns 13 rfl) ?_
        refine lv_iadd hx hb (dk DX11_mostRuns 14 rfl) ?_
        obtain ⟨h6, hF⟩ := ckB_ex hF
        refine r_iald C hR ob79 h6 (dk DX11_mostRuns 15 rfl) ?_
        refine lv_topi (fun x7 ex7 => ?_)
        have hF := lt_at ex7 hF
        refine r_mxI C (gd q2005 rfl) (by decide) (Nat.le_of_ble_eq_true rfl) hl.1 ⟨Nat.zero_le _, Nat.zero_le _⟩ (dk DX11_mostRuns 16 rfl) ?_
        refine lv_topi (fun x8 ex8 => ?_)
        have hF := lt_at ex8 hF
        refine lv_istore_n (lv' := [(1, .int x8), (0, .ref (G.2.1 + 78)), (2, .int x3)]) hx hb (dk DX11_mostRuns 17 rfl) rfl hl (by decide) rfl (fun ls hl => ?_)
        obtain ⟨x9, ex9, hF⟩ := lt_ex hF
        refine lv_iinc (v := x9) (lv' := [(2, .int x9), (1, .int x8), (0, .ref (G.2.1 + 78))]) hx hb (dk DX11_mostRuns 18 rfl) hl (k := 2) rfl (by rw [ex9]; rfl) (by decide) rfl (fun ls hl => ?_)
        refine lv_goto (tgt := 4) hx hb (dk DX11_mostRuns 19 rfl) (by decide) ?_
        exact ih5 x8 x9 m1 _ _ ls (lv_sub hl [2, 1, 0] rfl) hR hF
  exact L4 1000000 (0 : Int32) (0 : Int32) m0 _ _ ls (lv_sub hl [2, 1, 0] rfl) hR hF
set_option maxHeartbeats 4000000 in
set_option maxRecDepth 100000 in
theorem C_M_size (l : Launch) (hl0 : l.stackTraces = false) (G : GG) (m0 : Mem) (v : Int32) (m' : Mem) (hF : F_M_size m0 = some (v, m')) : Ct l G mr0 N0 yX11_size cX11_size 1 (some .int) 1 [.ref (G.2.1 + 78)] m0 (some (.int v)) m' := by
  refine Ct_of hl0 (by decide) (Nat.le_of_ble_eq_true rfl) ?_
  intro p e s mid args below meth c ls C hrt hl hR
  have hx := C.1.1
  have hb := C.1.2.1
  have hl : lv_has ls 1 [(0, .ref (G.2.1 + 78))] := hl
  unfold F_M_size at hF
  refine lv_aload_n hx hb (dk DX11_size 0 rfl) rfl (lv_at hl 0 rfl) ?_
  refine gX11_13 C hR ob78 rf78_1 (dk DX11_size 1 rfl) ?_
  refine lv_iconst (v := (0 : Int32)) hx hb (dk DX11_size 2 rfl) (by decide) ?_
  refine r_iald C hR ob79 rfl (dk DX11_size 3 rfl) ?_
  cases hF
  exact r_iret (v := gI m0 79 0) C hrt hR (dk DX11_size 4 rfl)
set_option maxHeartbeats 4000000 in
set_option maxRecDepth 100000 in
theorem C_M_inningsOf (l : Launch) (hl0 : l.stackTraces = false) (G : GG) (a0 : Int32) (m0 : Mem) (v : Int32) (m' : Mem) (hF : F_M_inningsOf a0 m0 = some (v, m')) : Ct l G mr0 N0 yX11_inningsOf cX11_inningsOf 1 (some .int) 1 [.int a0] m0 (some (.int v)) m' := by
  refine Ct_of hl0 (by decide) (Nat.le_of_ble_eq_true rfl) ?_
  intro p e s mid args below meth c ls C hrt hl hR
  have hx := C.1.1
  have hb := C.1.2.1
  have hl : lv_has ls 1 [(0, .int a0)] := hl
  unfold F_M_inningsOf at hF
  refine lv_iload_n hx hb (dk DX11_inningsOf 0 rfl) rfl (lv_at hl 0 rfl) ?_
  refine lv_iconst (v := (2 : Int32)) hx hb (dk DX11_inningsOf 1 rfl) (by decide) ?_
  refine lv_icmp_ge (tgt := 9) hx hb (dk DX11_inningsOf 2 rfl) (by decide) (fun c2 => ?_) (fun c2 => ?_)
  · have hF := if_t c2 hF
    refine lv_iload_n hx hb (dk DX11_inningsOf 5 rfl) rfl (lv_at hl 0 rfl) ?_
    refine lv_iconst (v := (4 : Int32)) hx hb (dk DX11_inningsOf 6 rfl) (by decide) ?_
    refine lv_icmp_ge (tgt := 18) hx hb (dk DX11_inningsOf 7 rfl) (by decide) (fun c11 => ?_) (fun c11 => ?_)
    · have hF := if_t c11 hF
      refine lv_iconst (v := (3 : Int32)) hx hb (dk DX11_inningsOf 10 rfl) (by decide) ?_
      cases hF
      exact r_iret (v := (3 : Int32)) C hrt hR (dk DX11_inningsOf 11 rfl)
    · have hF := if_f c11 hF
      refine lv_iconst (v := (2 : Int32)) hx hb (dk DX11_inningsOf 8 rfl) (by decide) ?_
      refine lv_goto (tgt := 19) hx hb (dk DX11_inningsOf 9 rfl) (by decide) ?_
      cases hF
      exact r_iret (v := (2 : Int32)) C hrt hR (dk DX11_inningsOf 11 rfl)
  · have hF := if_f c2 hF
    refine lv_iload_n hx hb (dk DX11_inningsOf 3 rfl) rfl (lv_at hl 0 rfl) ?_
    refine lv_goto (tgt := 19) hx hb (dk DX11_inningsOf 4 rfl) (by decide) ?_
    cases hF
    exact r_iret (v := a0) C hrt hR (dk DX11_inningsOf 11 rfl)
set_option maxHeartbeats 4000000 in
set_option maxRecDepth 100000 in
theorem C_M_isBehind (l : Launch) (hl0 : l.stackTraces = false) (G : GG) (a0 : Int32) (m0 : Mem) (v : Bool) (m' : Mem) (hF : F_M_isBehind a0 m0 = some (v, m')) : Ct l G mr0 N0 yX11_isBehind cX11_isBehind 1 (some .boolean) 1 [.int a0] m0 (some (.int (b2i v))) m' := by
  refine Ct_of hl0 (by decide) (Nat.le_of_ble_eq_true rfl) ?_
  intro p e s mid args below meth c ls C hrt hl hR
  have hx := C.1.1
  have hb := C.1.2.1
  have hl : lv_has ls 1 [(0, .int a0)] := hl
  unfold F_M_isBehind at hF
  refine lv_iload_n hx hb (dk DX11_isBehind 0 rfl) rfl (lv_at hl 0 rfl) ?_
  refine lv_iconst (v := (3 : Int32)) hx hb (dk DX11_isBehind 1 rfl) (by decide) ?_
  refine lv_icmp_eq (tgt := 10) hx hb (dk DX11_isBehind 2 rfl) (by decide) (fun c2 => ?_) (fun c2 => ?_)
  · have hF := if_t c2 hF
    refine lv_iconst (v := (1 : Int32)) hx hb (dk DX11_isBehind 6 rfl) (by decide) ?_
    refine lv_goto (tgt := 15) hx hb (dk DX11_isBehind 7 rfl) (by decide) ?_
    cases hF
    exact r_zret (v := true) C hrt hR (dk DX11_isBehind 9 rfl)
  · have hF := if_f c2 hF
    refine lv_iload_n hx hb (dk DX11_isBehind 3 rfl) rfl (lv_at hl 0 rfl) ?_
    refine lv_iconst (v := (5 : Int32)) hx hb (dk DX11_isBehind 4 rfl) (by decide) ?_
    refine lv_icmp_ne (tgt := 14) hx hb (dk DX11_isBehind 5 rfl) (by decide) (fun c7 => ?_) (fun c7 => ?_)
    · have hF := if_f c7 hF
      refine lv_iconst (v := (0 : Int32)) hx hb (dk DX11_isBehind 8 rfl) (by decide) ?_
      cases hF
      exact r_zret (v := false) C hrt hR (dk DX11_isBehind 9 rfl)
    · have hF := if_t c7 hF
      refine lv_iconst (v := (1 : Int32)) hx hb (dk DX11_isBehind 6 rfl) (by decide) ?_
      refine lv_goto (tgt := 15) hx hb (dk DX11_isBehind 7 rfl) (by decide) ?_
      cases hF
      exact r_zret (v := true) C hrt hR (dk DX11_isBehind 9 rfl)
set_option maxHeartbeats 4000000 in
set_option maxRecDepth 100000 in
theorem C_M_factOf (l : Launch) (hl0 : l.stackTraces = false) (G : GG) (a1 : Int32) (a2 : Int32) (a3 : Int32) (a4 : Int32) (a5 : Int32) (m0 : Mem) (v : Int32) (m' : Mem) (hF : F_M_factOf a1 a2 a3 a4 a5 m0 = some (v, m')) : Ct l G mr0 N0 yX11_factOf cX11_factOf 6 (some .int) 1 [.ref (G.2.1 + 78), .int a1, .int a2, .int a3, .int a4, .int a5] m0 (some (.int v)) m' := by
  refine Ct_of hl0 (by decide) (Nat.le_of_ble_eq_true rfl) ?_
  intro p e s mid args below meth c ls C hrt hl hR
  have hx := C.1.1
  have hb := C.1.2.1
  have hl : lv_has ls 6 [(0, .ref (G.2.1 + 78)), (1, .int a1), (2, .int a2), (3, .int a3), (4, .int a4), (5, .int a5)] := hl
  unfold F_M_factOf at hF
  refine lv_iload_n hx hb (dk DX11_factOf 0 rfl) rfl (lv_at hl 1 rfl) ?_
  by_cases d0 : a1 = (0 : Int32)
  · have hF := if_t d0 hF
    refine lv_tableIn (tgt := 48) hx hb (dk DX11_factOf 1 rfl) (by rw [d0]; decide) (by rw [d0]; decide) (by rw [d0]; rfl) (by decide) ?_
    refine lv_iload_n hx hb (dk DX11_factOf 2 rfl) rfl (lv_at hl 3 rfl) ?_
    cases hF
    exact r_iret (v := a3) C hrt hR (dk DX11_factOf 3 rfl)
  · have hF := if_f d0 hF
    by_cases d1 : a1 = (1 : Int32)
    · have hF := if_t d1 hF
      refine lv_tableIn (tgt := 50) hx hb (dk DX11_factOf 1 rfl) (by rw [d1]; decide) (by rw [d1]; decide) (by rw [d1]; rfl) (by decide) ?_
      refine lv_iload_n hx hb (dk DX11_factOf 4 rfl) rfl (lv_at hl 3 rfl) ?_
      refine lv_iconst (v := (3 : Int32)) hx hb (dk DX11_factOf 5 rfl) (by decide) ?_
      refine lv_idiv hx hb (dk DX11_factOf 6 rfl) (by decide) ?_
      cases hF
      exact r_iret (v := a3 / (3 : Int32)) C hrt hR (dk DX11_factOf 7 rfl)
    · have hF := if_f d1 hF
      by_cases d2 : a1 = (2 : Int32)
      · have hF := if_t d2 hF
        refine lv_tableIn (tgt := 54) hx hb (dk DX11_factOf 1 rfl) (by rw [d2]; decide) (by rw [d2]; decide) (by rw [d2]; rfl) (by decide) ?_
        refine lv_iload hx hb (dk DX11_factOf 8 rfl) (lv_at hl 4 rfl) ?_
        cases hF
        exact r_iret (v := a4) C hrt hR (dk DX11_factOf 9 rfl)
      · have hF := if_f d2 hF
        by_cases d3 : a1 = (3 : Int32)
        · have hF := if_t d3 hF
          refine lv_tableIn (tgt := 57) hx hb (dk DX11_factOf 1 rfl) (by rw [d3]; decide) (by rw [d3]; decide) (by rw [d3]; rfl) (by decide) ?_
          refine lv_iload hx hb (dk DX11_factOf 10 rfl) (lv_at hl 5 rfl) ?_
          cases hF
          exact r_iret (v := a5) C hrt hR (dk DX11_factOf 11 rfl)
        · have hF := if_f d3 hF
          by_cases d4 : a1 = (4 : Int32)
          · have hF := if_t d4 hF
            refine lv_tableIn (tgt := 60) hx hb (dk DX11_factOf 1 rfl) (by rw [d4]; decide) (by rw [d4]; decide) (by rw [d4]; rfl) (by decide) ?_
            refine lv_aload_n hx hb (dk DX11_factOf 12 rfl) rfl (lv_at hl 0 rfl) ?_
            refine gX11_13 C hR ob78 rf78_1 (dk DX11_factOf 13 rfl) ?_
            refine lv_bipush (v := (19 : Int32)) hx hb (dk DX11_factOf 14 rfl) (by decide) ?_
            refine lv_iconst (v := (2 : Int32)) hx hb (dk DX11_factOf 15 rfl) (by decide) ?_
            refine lv_iload hx hb (dk DX11_factOf 16 rfl) (lv_at hl 5 rfl) ?_
            refine lv_imul hx hb (dk DX11_factOf 17 rfl) ?_
            refine lv_iadd hx hb (dk DX11_factOf 18 rfl) ?_
            obtain ⟨h1, hF⟩ := ckB_ex hF
            refine r_iald C hR ob79 h1 (dk DX11_factOf 19 rfl) ?_
            refine lv_topi (fun x2 ex2 => ?_)
            have hF := lt_at ex2 hF
            cases hF
            exact r_iret (v := x2) C hrt hR (dk DX11_factOf 20 rfl)
          · have hF := if_f d4 hF
            by_cases d5 : a1 = (5 : Int32)
            · have hF := if_t d5 hF
              refine lv_tableIn (tgt := 73) hx hb (dk DX11_factOf 1 rfl) (by rw [d5]; decide) (by rw [d5]; decide) (by rw [d5]; rfl) (by decide) ?_
              refine lv_aload_n hx hb (dk DX11_factOf 21 rfl) rfl (lv_at hl 0 rfl) ?_
              refine gX11_13 C hR ob78 rf78_1 (dk DX11_factOf 22 rfl) ?_
              refine lv_bipush (v := (19 : Int32)) hx hb (dk DX11_factOf 23 rfl) (by decide) ?_
              refine lv_iconst (v := (2 : Int32)) hx hb (dk DX11_factOf 24 rfl) (by decide) ?_
              refine lv_iconst (v := (1 : Int32)) hx hb (dk DX11_factOf 25 rfl) (by decide) ?_
              refine lv_iload hx hb (dk DX11_factOf 26 rfl) (lv_at hl 5 rfl) ?_
              refine lv_isub hx hb (dk DX11_factOf 27 rfl) ?_
              refine lv_imul hx hb (dk DX11_factOf 28 rfl) ?_
              refine lv_iadd hx hb (dk DX11_factOf 29 rfl) ?_
              refine lv_topi (fun x3 ex3 => ?_)
              have hF := lt_at ex3 hF
              refine lv_iconst (v := (1 : Int32)) hx hb (dk DX11_factOf 30 rfl) (by decide) ?_
              refine lv_iadd hx hb (dk DX11_factOf 31 rfl) ?_
              obtain ⟨h4, hF⟩ := ckB_ex hF
              refine r_iald C hR ob79 h4 (dk DX11_factOf 32 rfl) ?_
              refine lv_topi (fun x5 ex5 => ?_)
              have hF := lt_at ex5 hF
              cases hF
              exact r_iret (v := x5) C hrt hR (dk DX11_factOf 33 rfl)
            · have hF := if_f d5 hF
              by_cases d6 : a1 = (6 : Int32)
              · have hF := if_t d6 hF
                refine lv_tableIn (tgt := 90) hx hb (dk DX11_factOf 1 rfl) (by rw [d6]; decide) (by rw [d6]; decide) (by rw [d6]; rfl) (by decide) ?_
                refine lv_aload_n hx hb (dk DX11_factOf 34 rfl) rfl (lv_at hl 0 rfl) ?_
                refine gX11_13 C hR ob78 rf78_1 (dk DX11_factOf 35 rfl) ?_
                refine lv_bipush (v := (6 : Int32)) hx hb (dk DX11_factOf 36 rfl) (by decide) ?_
                refine r_iald C hR ob79 rfl (dk DX11_factOf 37 rfl) ?_
                refine lv_iload_n hx hb (dk DX11_factOf 38 rfl) rfl (lv_at hl 3 rfl) ?_
                refine lv_ishr hx hb (dk DX11_factOf 39 rfl) ?_
                refine lv_iconst (v := (1 : Int32)) hx hb (dk DX11_factOf 40 rfl) (by decide) ?_
                refine lv_iand hx hb (dk DX11_factOf 41 rfl) ?_
                cases hF
                exact r_iret (v := ((gI m0 79 6) >>> (a3 &&& 31)) &&& (1 : Int32)) C hrt hR (dk DX11_factOf 42 rfl)
              · have hF := if_f d6 hF
                by_cases d7 : a1 = (7 : Int32)
                · have hF := if_t d7 hF
                  refine lv_tableIn (tgt := 102) hx hb (dk DX11_factOf 1 rfl) (by rw [d7]; decide) (by rw [d7]; decide) (by rw [d7]; rfl) (by decide) ?_
                  refine lv_aload_n hx hb (dk DX11_factOf 43 rfl) rfl (lv_at hl 0 rfl) ?_
                  refine gX11_13 C hR ob78 rf78_1 (dk DX11_factOf 44 rfl) ?_
                  refine lv_bipush (v := (7 : Int32)) hx hb (dk DX11_factOf 45 rfl) (by decide) ?_
                  refine r_iald C hR ob79 rfl (dk DX11_factOf 46 rfl) ?_
                  refine lv_iload_n hx hb (dk DX11_factOf 47 rfl) rfl (lv_at hl 3 rfl) ?_
                  refine lv_ishr hx hb (dk DX11_factOf 48 rfl) ?_
                  refine lv_iconst (v := (1 : Int32)) hx hb (dk DX11_factOf 49 rfl) (by decide) ?_
                  refine lv_iand hx hb (dk DX11_factOf 50 rfl) ?_
                  cases hF
                  exact r_iret (v := ((gI m0 79 7) >>> (a3 &&& 31)) &&& (1 : Int32)) C hrt hR (dk DX11_factOf 51 rfl)
                · have hF := if_f d7 hF
                  have n0 := i32_ne d0 (z := 0) rfl
                  have n1 := i32_ne d1 (z := 1) rfl
                  have n2 := i32_ne d2 (z := 2) rfl
                  have n3 := i32_ne d3 (z := 3) rfl
                  have n4 := i32_ne d4 (z := 4) rfl
                  have n5 := i32_ne d5 (z := 5) rfl
                  have n6 := i32_ne d6 (z := 6) rfl
                  have n7 := i32_ne d7 (z := 7) rfl
                  refine lv_tableOut (tgt := 114) hx hb (dk DX11_factOf 1 rfl) (by omega) (by decide) ?_
                  refine lv_iload_n hx hb (dk DX11_factOf 52 rfl) rfl (lv_at hl 2 rfl) ?_
                  cases hF
                  exact r_iret (v := a2) C hrt hR (dk DX11_factOf 53 rfl)
set_option maxHeartbeats 4000000 in
set_option maxRecDepth 100000 in
theorem C_M_holdsLine (l : Launch) (hl0 : l.stackTraces = false) (G : GG) (a1 : Int32) (a2 : Int32) (a3 : Int32) (a4 : Int32) (m0 : Mem) (v : Bool) (m' : Mem) (hF : F_M_holdsLine a1 a2 a3 a4 m0 = some (v, m')) : Ct l G mr0 N0 yX11_holdsLine cX11_holdsLine 12 (some .boolean) 2 [.ref (G.2.1 + 78), .int a1, .int a2, .int a3, .int a4] m0 (some (.int (b2i v))) m' := by
  refine Ct_of hl0 (by decide) (Nat.le_of_ble_eq_true rfl) ?_
  intro p e s mid args below meth c ls C hrt hl hR
  have hx := C.1.1
  have hb := C.1.2.1
  have hl : lv_has ls 12 [(0, .ref (G.2.1 + 78)), (1, .int a1), (2, .int a2), (3, .int a3), (4, .int a4)] := hl
  unfold F_M_holdsLine at hF
  refine lv_iconst (v := (0 : Int32)) hx hb (dk DX11_holdsLine 0 rfl) (by decide) ?_
  refine lv_istore (lv' := [(5, .int (0 : Int32)), (0, .ref (G.2.1 + 78)), (1, .int a1), (2, .int a2), (3, .int a3), (4, .int a4)]) hx hb (dk DX11_holdsLine 1 rfl) hl (by decide) rfl (fun ls hl => ?_)
  refine lv_sipush (v := (299 : Int32)) hx hb (dk DX11_holdsLine 2 rfl) (by decide) ?_
  refine lv_iconst (v := (3 : Int32)) hx hb (dk DX11_holdsLine 3 rfl) (by decide) ?_
  refine lv_iload_n hx hb (dk DX11_holdsLine 4 rfl) rfl (lv_at hl 2 rfl) ?_
  refine lv_imul hx hb (dk DX11_holdsLine 5 rfl) ?_
  refine lv_iadd hx hb (dk DX11_holdsLine 6 rfl) ?_
  refine lv_topi (fun x1 ex1 => ?_)
  have hF := lt_at ex1 hF
  refine lv_istore (lv' := [(6, .int x1), (5, .int (0 : Int32)), (0, .ref (G.2.1 + 78)), (1, .int a1), (2, .int a2), (3, .int a3), (4, .int a4)]) hx hb (dk DX11_holdsLine 7 rfl) hl (by decide) rfl (fun ls hl => ?_)
  refine lv_aload_n hx hb (dk DX11_holdsLine 8 rfl) rfl (lv_at hl 2 rfl) ?_
  refine gX11_13 C hR ob78 rf78_1 (dk DX11_holdsLine 9 rfl) ?_
  refine lv_iload hx hb (dk DX11_holdsLine 10 rfl) (lv_at hl 0 rfl) ?_
  refine lv_iconst (v := (1 : Int32)) hx hb (dk DX11_holdsLine 11 rfl) (by decide) ?_
  refine lv_iadd hx hb (dk DX11_holdsLine 12 rfl) ?_
  obtain ⟨h2, hF⟩ := ckB_ex hF
  refine r_iald C hR ob79 h2 (dk DX11_holdsLine 13 rfl) ?_
  refine lv_topi (fun x3 ex3 => ?_)
  have hF := lt_at ex3 hF
  refine lv_istore (lv' := [(7, .int x3), (6, .int x1), (5, .int (0 : Int32)), (0, .ref (G.2.1 + 78)), (1, .int a1), (2, .int a2), (3, .int a3), (4, .int a4)]) hx hb (dk DX11_holdsLine 14 rfl) hl (by decide) rfl (fun ls hl => ?_)
  obtain ⟨k273_5, ek273_5, hF⟩ := lt_ex hF
  have J273 : ∀ (x5 : Int32) (m4 : Mem) (H : Heap) (locs : List Loc) (ls : Array Slot), lv_has ls 12 [(0, .ref (G.2.1 + 78)), (5, .int x5)] → Rp G mr0 N0 m4 s H locs → k273_5 x5 m4 = some (v, m') → W p l e (rmD 2) s mid args below meth c H locs 0 0 (MQ below (QR G mr0 N0 (some (.int (b2i v))) m') args s 0 0 (fun q => G.2.1 ≤ q)) (F0 mid 273 ls []) := by
    intro x5 m4 H locs ls hl hR hF
    rw [ek273_5] at hF
    refine lv_iload hx hb (dk DX11_holdsLine 148 rfl) (lv_at hl 1 rfl) ?_
    refine lv_if_eq (tgt := 288) hx hb (dk DX11_holdsLine 149 rfl) (by decide) (fun c275 => ?_) (fun c275 => ?_)
    · have hF := if_t c275 hF
      refine lv_iconst (v := (1 : Int32)) hx hb (dk DX11_holdsLine 156 rfl) (by decide) ?_
      refine lv_goto (tgt := 293) hx hb (dk DX11_holdsLine 157 rfl) (by decide) ?_
      cases hF
      exact r_zret (v := true) C hrt hR (dk DX11_holdsLine 159 rfl)
    · have hF := if_f c275 hF
      refine lv_aload_n hx hb (dk DX11_holdsLine 150 rfl) rfl (lv_at hl 0 rfl) ?_
      refine gX11_36 C hR ob78 rf78_16 (dk DX11_holdsLine 151 rfl) ?_
      refine lv_iconst (v := (0 : Int32)) hx hb (dk DX11_holdsLine 152 rfl) (by decide) ?_
      refine r_iald C hR ob85 rfl (dk DX11_holdsLine 153 rfl) ?_
      refine lv_iconst (v := (1 : Int32)) hx hb (dk DX11_holdsLine 154 rfl) (by decide) ?_
      refine lv_icmp_ne (tgt := 292) hx hb (dk DX11_holdsLine 155 rfl) (by decide) (fun c285 => ?_) (fun c285 => ?_)
      · have hF := if_f c285 hF
        refine lv_iconst (v := (0 : Int32)) hx hb (dk DX11_holdsLine 158 rfl) (by decide) ?_
        cases hF
        exact r_zret (v := false) C hrt hR (dk DX11_holdsLine 159 rfl)
      · have hF := if_t c285 hF
        refine lv_iconst (v := (1 : Int32)) hx hb (dk DX11_holdsLine 156 rfl) (by decide) ?_
        refine lv_goto (tgt := 293) hx hb (dk DX11_holdsLine 157 rfl) (by decide) ?_
        cases hF
        exact r_zret (v := true) C hrt hR (dk DX11_holdsLine 159 rfl)
  have L23 : ∀ (nf : Nat) (x7 : Int32) (x8 : Int32) (m6 : Mem) (H : Heap) (locs : List Loc) (ls : Array Slot), lv_has ls 12 [(0, .ref (G.2.1 + 78)), (2, .int a2), (3, .int a3), (4, .int a4), (5, .int x7), (6, .int x1), (7, .int x8)] → Rp G mr0 N0 m6 s H locs → F_M_holdsLine_L23 a2 a3 a4 x1 k273_5 nf x7 x8 m6 = some (v, m') → W p l e (rmD 2) s mid args below meth c H locs 0 0 (MQ below (QR G mr0 N0 (some (.int (b2i v))) m') args s 0 0 (fun q => G.2.1 ≤ q)) (F0 mid 23 ls []) := by
    intro nf
    induction nf with
    | zero =>
      intro x7 x8 m6 H locs ls hl hR hF
      rw [F_M_holdsLine_L23] at hF
      cases hF
    | succ nf ih10 =>
      intro x7 x8 m6 H locs ls hl hR hF
      rw [F_M_holdsLine_L23] at hF
      refine lv_iload hx hb (dk DX11_holdsLine 15 rfl) (lv_at hl 6 rfl) ?_
      refine lv_aload_n hx hb (dk DX11_holdsLine 16 rfl) rfl (lv_at hl 0 rfl) ?_
      refine gX11_13 C hR ob78 rf78_1 (dk DX11_holdsLine 17 rfl) ?_
      refine lv_iload hx hb (dk DX11_holdsLine 18 rfl) (lv_at hl 5 rfl) ?_
      refine lv_iconst (v := (2 : Int32)) hx hb (dk DX11_holdsLine 19 rfl) (by decide) ?_
      refine lv_iadd hx hb (dk DX11_holdsLine 20 rfl) ?_
      obtain ⟨h11, hF⟩ := ckB_ex hF
      refine r_iald C hR ob79 h11 (dk DX11_holdsLine 21 rfl) ?_
      refine lv_topi (fun x12 ex12 => ?_)
      have hF := lt_at ex12 hF
      refine lv_icmp_ge (tgt := 273) hx hb (dk DX11_holdsLine 22 rfl) (by decide) (fun c34 => ?_) (fun c34 => ?_)
      · have hF := if_t c34 hF
        exact J273 x7 m6 _ _ ls (lv_sub hl [0, 4] rfl) hR hF
      · have hF := if_f c34 hF
        refine lv_aload_n hx hb (dk DX11_holdsLine 23 rfl) rfl (lv_at hl 0 rfl) ?_
        refine gX11_13 C hR ob78 rf78_1 (dk DX11_holdsLine 24 rfl) ?_
        refine lv_sipush (v := (335 : Int32)) hx hb (dk DX11_holdsLine 25 rfl) (by decide) ?_
        refine lv_iconst (v := (2 : Int32)) hx hb (dk DX11_holdsLine 26 rfl) (by decide) ?_
        refine lv_iload hx hb (dk DX11_holdsLine 27 rfl) (lv_at hl 6 rfl) ?_
        refine lv_imul hx hb (dk DX11_holdsLine 28 rfl) ?_
        refine lv_iadd hx hb (dk DX11_holdsLine 29 rfl) ?_
        obtain ⟨h13, hF⟩ := ckB_ex hF
        refine r_iald C hR ob79 h13 (dk DX11_holdsLine 30 rfl) ?_
        refine lv_topi (fun x14 ex14 => ?_)
        have hF := lt_at ex14 hF
        refine lv_istore (lv' := [(8, .int x14), (0, .ref (G.2.1 + 78)), (2, .int a2), (3, .int a3), (4, .int a4), (5, .int x7), (6, .int x1), (7, .int x8)]) hx hb (dk DX11_holdsLine 31 rfl) hl (by decide) rfl (fun ls hl => ?_)
        refine lv_iload hx hb (dk DX11_holdsLine 32 rfl) (lv_at hl 0 rfl) ?_
        refine lv_bipush (v := (8 : Int32)) hx hb (dk DX11_holdsLine 33 rfl) (by decide) ?_
        obtain ⟨k267_16, ek267_16, hF⟩ := lt_ex hF
        have J267 : ∀ (x16 : Int32) (m15 : Mem) (H : Heap) (locs : List Loc) (ls : Array Slot), lv_has ls 12 [(0, .ref (G.2.1 + 78)), (2, .int a2), (3, .int a3), (4, .int a4), (5, .int x16), (6, .int x1), (7, .int x8)] → Rp G mr0 N0 m15 s H locs → k267_16 x16 m15 = some (v, m') → W p l e (rmD 2) s mid args below meth c H locs 0 0 (MQ below (QR G mr0 N0 (some (.int (b2i v))) m') args s 0 0 (fun q => G.2.1 ≤ q)) (F0 mid 267 ls []) := by
          intro x16 m15 H locs ls hl hR hF
          rw [ek267_16] at hF
          obtain ⟨x17, ex17, hF⟩ := lt_ex hF
          refine lv_iinc (v := x17) (lv' := [(7, .int x17), (0, .ref (G.2.1 + 78)), (2, .int a2), (3, .int a3), (4, .int a4), (5, .int x16), (6, .int x1)]) hx hb (dk DX11_holdsLine 146 rfl) hl (k := 6) rfl (by rw [ex17]; rfl) (by decide) rfl (fun ls hl => ?_)
          refine lv_goto (tgt := 23) hx hb (dk DX11_holdsLine 147 rfl) (by decide) ?_
          exact ih10 x16 x17 m15 _ _ ls (lv_sub hl [1, 2, 3, 4, 5, 6, 0] rfl) hR hF
        refine lv_icmp_gt (tgt := 97) hx hb (dk DX11_holdsLine 34 rfl) (by decide) (fun c56 => ?_) (fun c56 => ?_)
        · have hF := if_t c56 hF
          refine lv_iload hx hb (dk DX11_holdsLine 57 rfl) (lv_at hl 0 rfl) ?_
          refine lv_bipush (v := (12 : Int32)) hx hb (dk DX11_holdsLine 58 rfl) (by decide) ?_
          refine lv_icmp_ne (tgt := 127) hx hb (dk DX11_holdsLine 59 rfl) (by decide) (fun c101 => ?_) (fun c101 => ?_)
          · have hF := if_f c101 hF
            obtain ⟨x18, ex18, hF⟩ := lt_ex hF
            refine lv_iinc (v := x18) (lv' := [(5, .int x18), (8, .int x14), (0, .ref (G.2.1 + 78)), (2, .int a2), (3, .int a3), (4, .int a4), (6, .int x1), (7, .int x8)]) hx hb (dk DX11_holdsLine 75 rfl) hl (k := 5) rfl (by rw [ex18]; rfl) (by decide) rfl (fun ls hl => ?_)
            refine lv_aload_n hx hb (dk DX11_holdsLine 76 rfl) rfl (lv_at hl 2 rfl) ?_
            refine gX11_36 C hR ob78 rf78_16 (dk DX11_holdsLine 77 rfl) ?_
            refine lv_iload hx hb (dk DX11_holdsLine 78 rfl) (lv_at hl 0 rfl) ?_
            refine lv_iconst (v := (1 : Int32)) hx hb (dk DX11_holdsLine 79 rfl) (by decide) ?_
            refine lv_isub hx hb (dk DX11_holdsLine 80 rfl) ?_
            obtain ⟨h19, hF⟩ := ckB_ex hF
            refine r_iald C hR ob85 h19 (dk DX11_holdsLine 81 rfl) ?_
            refine lv_topi (fun x20 ex20 => ?_)
            have hF := lt_at ex20 hF
            refine lv_istore (lv' := [(9, .int x20), (5, .int x18), (8, .int x14), (0, .ref (G.2.1 + 78)), (2, .int a2), (3, .int a3), (4, .int a4), (6, .int x1), (7, .int x8)]) hx hb (dk DX11_holdsLine 82 rfl) hl (by decide) rfl (fun ls hl => ?_)
            refine lv_aload_n hx hb (dk DX11_holdsLine 83 rfl) rfl (lv_at hl 3 rfl) ?_
            refine gX11_36 C hR ob78 rf78_16 (dk DX11_holdsLine 84 rfl) ?_
            refine lv_iload hx hb (dk DX11_holdsLine 85 rfl) (lv_at hl 1 rfl) ?_
            obtain ⟨h21, hF⟩ := ckB_ex hF
            refine r_iald C hR ob85 h21 (dk DX11_holdsLine 86 rfl) ?_
            refine lv_topi (fun x22 ex22 => ?_)
            have hF := lt_at ex22 hF
            refine lv_istore (lv' := [(10, .int x22), (9, .int x20), (5, .int x18), (8, .int x14), (0, .ref (G.2.1 + 78)), (2, .int a2), (3, .int a3), (4, .int a4), (6, .int x1), (7, .int x8)]) hx hb (dk DX11_holdsLine 87 rfl) hl (by decide) rfl (fun ls hl => ?_)
            refine lv_iload hx hb (dk DX11_holdsLine 88 rfl) (lv_at hl 3 rfl) ?_
            refine lv_bipush (v := (10 : Int32)) hx hb (dk DX11_holdsLine 89 rfl) (by decide) ?_
            obtain ⟨k231_24, ek231_24, hF⟩ := lt_ex hF
            have J231 : ∀ (z24 : Bool) (m23 : Mem) (H : Heap) (locs : List Loc) (ls : Array Slot), lv_has ls 12 [(0, .ref (G.2.1 + 78)), (2, .int a2), (3, .int a3), (4, .int a4), (5, .int x18), (6, .int x1), (7, .int x8), (8, .int x14), (9, .int x20), (10, .int x22)] → Rp G mr0 N0 m23 s H locs → k231_24 z24 m23 = some (v, m') → W p l e (rmD 2) s mid args below meth c H locs 0 0 (MQ below (QR G mr0 N0 (some (.int (b2i v))) m') args s 0 0 (fun q => G.2.1 ≤ q)) (F0 mid 231 ls [.int (b2i z24)]) := by
              intro z24 m23 H locs ls hl hR hF
              rw [ek231_24] at hF
              refine lv_istore (lv' := [(11, .int (b2i z24)), (0, .ref (G.2.1 + 78)), (2, .int a2), (3, .int a3), (4, .int a4), (5, .int x18), (6, .int x1), (7, .int x8), (8, .int x14), (9, .int x20), (10, .int x22)]) hx hb (dk DX11_holdsLine 127 rfl) hl (by decide) rfl (fun ls hl => ?_)
              refine lv_aload_n hx hb (dk DX11_holdsLine 128 rfl) rfl (lv_at hl 1 rfl) ?_
              refine gX11_36 C hR ob78 rf78_16 (dk DX11_holdsLine 129 rfl) ?_
              refine lv_iload hx hb (dk DX11_holdsLine 130 rfl) (lv_at hl 5 rfl) ?_
              refine lv_iconst (v := (1 : Int32)) hx hb (dk DX11_holdsLine 131 rfl) (by decide) ?_
              refine lv_isub hx hb (dk DX11_holdsLine 132 rfl) ?_
              refine lv_iload hx hb (dk DX11_holdsLine 133 rfl) (lv_at hl 8 rfl) ?_
              refine lv_bipush (v := (9 : Int32)) hx hb (dk DX11_holdsLine 134 rfl) (by decide) ?_
              obtain ⟨k266_26, ek266_26, hF⟩ := lt_ex hF
              have J266 : ∀ (x26 : Int32) (m25 : Mem) (H : Heap) (locs : List Loc) (ls : Array Slot), lv_has ls 12 [(0, .ref (G.2.1 + 78)), (2, .int a2), (3, .int a3), (4, .int a4), (5, .int x18), (6, .int x1), (7, .int x8)] → Rp G mr0 N0 m25 s H locs → k266_26 x26 m25 = some (v, m') → W p l e (rmD 2) s mid args below meth c H locs 0 0 (MQ below (QR G mr0 N0 (some (.int (b2i v))) m') args s 0 0 (fun q => G.2.1 ≤ q)) (F0 mid 266 ls [.int x26, .int (x18 - (1 : Int32)), .ref (G.2.1 + 85)]) := by
                intro x26 m25 H locs ls hl hR hF
                rw [ek266_26] at hF
                obtain ⟨h28, hF⟩ := ckB_ex hF
                refine r_iast C hR ob85 h28 (dk DX11_holdsLine 145 rfl) (fun H locs hR => ?_)
                obtain ⟨m27, em27, hF⟩ := lt_ex hF
                have hR := Rp_at em27 hR
                exact J267 x18 m27 _ _ ls (lv_sub hl [0, 1, 2, 3, 4, 5, 6] rfl) hR hF
              refine lv_icmp_ne (tgt := 256) hx hb (dk DX11_holdsLine 135 rfl) (by decide) (fun c245 => ?_) (fun c245 => ?_)
              · have hF := if_f c245 hF
                refine lv_iload hx hb (dk DX11_holdsLine 140 rfl) (lv_at hl 0 rfl) ?_
                refine z_ifeq (tgt := 265) hx hb (dk DX11_holdsLine 141 rfl) (by decide) (fun c258 => ?_) (fun c258 => ?_)
                · have hF := if_f c258 hF
                  refine lv_iconst (v := (0 : Int32)) hx hb (dk DX11_holdsLine 144 rfl) (by decide) ?_
                  exact J266 (0 : Int32) m23 _ _ ls (lv_sub hl [1, 2, 3, 4, 5, 6, 7] rfl) hR hF
                · have hF := if_t c258 hF
                  refine lv_iconst (v := (1 : Int32)) hx hb (dk DX11_holdsLine 142 rfl) (by decide) ?_
                  refine lv_goto (tgt := 266) hx hb (dk DX11_holdsLine 143 rfl) (by decide) ?_
                  exact J266 (1 : Int32) m23 _ _ ls (lv_sub hl [1, 2, 3, 4, 5, 6, 7] rfl) hR hF
              · have hF := if_t c245 hF
                refine lv_iload hx hb (dk DX11_holdsLine 136 rfl) (lv_at hl 9 rfl) ?_
                refine lv_iload hx hb (dk DX11_holdsLine 137 rfl) (lv_at hl 10 rfl) ?_
                refine lv_iadd hx hb (dk DX11_holdsLine 138 rfl) ?_
                refine lv_goto (tgt := 266) hx hb (dk DX11_holdsLine 139 rfl) (by decide) ?_
                exact J266 (x20 + x22) m23 _ _ ls (lv_sub hl [1, 2, 3, 4, 5, 6, 7] rfl) hR hF
            refine lv_icmp_ne (tgt := 172) hx hb (dk DX11_holdsLine 90 rfl) (by decide) (fun c154 => ?_) (fun c154 => ?_)
            · have hF := if_f c154 hF
              refine lv_iload hx hb (dk DX11_holdsLine 98 rfl) (lv_at hl 3 rfl) ?_
              refine lv_bipush (v := (11 : Int32)) hx hb (dk DX11_holdsLine 99 rfl) (by decide) ?_
              refine lv_icmp_ne (tgt := 194) hx hb (dk DX11_holdsLine 100 rfl) (by decide) (fun c176 => ?_) (fun c176 => ?_)
              · have hF := if_f c176 hF
                refine lv_iload hx hb (dk DX11_holdsLine 108 rfl) (lv_at hl 3 rfl) ?_
                refine lv_bipush (v := (13 : Int32)) hx hb (dk DX11_holdsLine 109 rfl) (by decide) ?_
                refine lv_icmp_ne (tgt := 218) hx hb (dk DX11_holdsLine 110 rfl) (by decide) (fun c198 => ?_) (fun c198 => ?_)
                · have hF := if_f c198 hF
                  refine lv_iload hx hb (dk DX11_holdsLine 120 rfl) (lv_at hl 1 rfl) ?_
                  refine lv_iload hx hb (dk DX11_holdsLine 121 rfl) (lv_at hl 0 rfl) ?_
                  refine lv_iadd hx hb (dk DX11_holdsLine 122 rfl) ?_
                  refine lv_if_le (tgt := 230) hx hb (dk DX11_holdsLine 123 rfl) (by decide) (fun c223 => ?_) (fun c223 => ?_)
                  · have hF := if_t c223 hF
                    refine lv_iconst (v := (0 : Int32)) hx hb (dk DX11_holdsLine 126 rfl) (by decide) ?_
                    exact J231 false m6 _ _ ls (lv_sub hl [4, 5, 6, 7, 2, 8, 9, 3, 1, 0] rfl) hR hF
                  · have hF := if_f c223 hF
                    refine lv_iconst (v := (1 : Int32)) hx hb (dk DX11_holdsLine 124 rfl) (by decide) ?_
                    refine lv_goto (tgt := 231) hx hb (dk DX11_holdsLine 125 rfl) (by decide) ?_
                    exact J231 true m6 _ _ ls (lv_sub hl [4, 5, 6, 7, 2, 8, 9, 3, 1, 0] rfl) hR hF
                · have hF := if_t c198 hF
                  refine lv_iload hx hb (dk DX11_holdsLine 111 rfl) (lv_at hl 1 rfl) ?_
                  refine lv_iload hx hb (dk DX11_holdsLine 112 rfl) (lv_at hl 0 rfl) ?_
                  refine lv_iadd hx hb (dk DX11_holdsLine 113 rfl) ?_
                  refine lv_iconst (v := (2 : Int32)) hx hb (dk DX11_holdsLine 114 rfl) (by decide) ?_
                  refine lv_icmp_ne (tgt := 214) hx hb (dk DX11_holdsLine 115 rfl) (by decide) (fun c207 => ?_) (fun c207 => ?_)
                  · have hF := if_f c207 hF
                    refine lv_iconst (v := (0 : Int32)) hx hb (dk DX11_holdsLine 118 rfl) (by decide) ?_
                    refine lv_goto (tgt := 231) hx hb (dk DX11_holdsLine 119 rfl) (by decide) ?_
                    exact J231 false m6 _ _ ls (lv_sub hl [4, 5, 6, 7, 2, 8, 9, 3, 1, 0] rfl) hR hF
                  · have hF := if_t c207 hF
                    refine lv_iconst (v := (1 : Int32)) hx hb (dk DX11_holdsLine 116 rfl) (by decide) ?_
                    refine lv_goto (tgt := 231) hx hb (dk DX11_holdsLine 117 rfl) (by decide) ?_
                    exact J231 true m6 _ _ ls (lv_sub hl [4, 5, 6, 7, 2, 8, 9, 3, 1, 0] rfl) hR hF
              · have hF := if_t c176 hF
                refine lv_iload hx hb (dk DX11_holdsLine 101 rfl) (lv_at hl 1 rfl) ?_
                refine lv_iload hx hb (dk DX11_holdsLine 102 rfl) (lv_at hl 0 rfl) ?_
                refine lv_icmp_le (tgt := 190) hx hb (dk DX11_holdsLine 103 rfl) (by decide) (fun c183 => ?_) (fun c183 => ?_)
                · have hF := if_t c183 hF
                  refine lv_iconst (v := (0 : Int32)) hx hb (dk DX11_holdsLine 106 rfl) (by decide) ?_
                  refine lv_goto (tgt := 231) hx hb (dk DX11_holdsLine 107 rfl) (by decide) ?_
                  exact J231 false m6 _ _ ls (lv_sub hl [4, 5, 6, 7, 2, 8, 9, 3, 1, 0] rfl) hR hF
                · have hF := if_f c183 hF
                  refine lv_iconst (v := (1 : Int32)) hx hb (dk DX11_holdsLine 104 rfl) (by decide) ?_
                  refine lv_goto (tgt := 231) hx hb (dk DX11_holdsLine 105 rfl) (by decide) ?_
                  exact J231 true m6 _ _ ls (lv_sub hl [4, 5, 6, 7, 2, 8, 9, 3, 1, 0] rfl) hR hF
            · have hF := if_t c154 hF
              refine lv_iload hx hb (dk DX11_holdsLine 91 rfl) (lv_at hl 1 rfl) ?_
              refine lv_iload hx hb (dk DX11_holdsLine 92 rfl) (lv_at hl 0 rfl) ?_
              refine lv_icmp_ge (tgt := 168) hx hb (dk DX11_holdsLine 93 rfl) (by decide) (fun c161 => ?_) (fun c161 => ?_)
              · have hF := if_t c161 hF
                refine lv_iconst (v := (0 : Int32)) hx hb (dk DX11_holdsLine 96 rfl) (by decide) ?_
                refine lv_goto (tgt := 231) hx hb (dk DX11_holdsLine 97 rfl) (by decide) ?_
                exact J231 false m6 _ _ ls (lv_sub hl [4, 5, 6, 7, 2, 8, 9, 3, 1, 0] rfl) hR hF
              · have hF := if_f c161 hF
                refine lv_iconst (v := (1 : Int32)) hx hb (dk DX11_holdsLine 94 rfl) (by decide) ?_
                refine lv_goto (tgt := 231) hx hb (dk DX11_holdsLine 95 rfl) (by decide) ?_
                exact J231 true m6 _ _ ls (lv_sub hl [4, 5, 6, 7, 2, 8, 9, 3, 1, 0] rfl) hR hF
          · have hF := if_t c101 hF
            refine lv_aload_n hx hb (dk DX11_holdsLine 60 rfl) rfl (lv_at hl 1 rfl) ?_
            refine gX11_36 C hR ob78 rf78_16 (dk DX11_holdsLine 61 rfl) ?_
            refine lv_iload hx hb (dk DX11_holdsLine 62 rfl) (lv_at hl 5 rfl) ?_
            refine lv_iconst (v := (1 : Int32)) hx hb (dk DX11_holdsLine 63 rfl) (by decide) ?_
            refine lv_isub hx hb (dk DX11_holdsLine 64 rfl) ?_
            refine lv_iconst (v := (1 : Int32)) hx hb (dk DX11_holdsLine 65 rfl) (by decide) ?_
            refine lv_aload_n hx hb (dk DX11_holdsLine 66 rfl) rfl (lv_at hl 1 rfl) ?_
            refine gX11_36 C hR ob78 rf78_16 (dk DX11_holdsLine 67 rfl) ?_
            refine lv_iload hx hb (dk DX11_holdsLine 68 rfl) (lv_at hl 5 rfl) ?_
            refine lv_iconst (v := (1 : Int32)) hx hb (dk DX11_holdsLine 69 rfl) (by decide) ?_
            refine lv_isub hx hb (dk DX11_holdsLine 70 rfl) ?_
            obtain ⟨h29, hF⟩ := ckB_ex hF
            refine r_iald C hR ob85 h29 (dk DX11_holdsLine 71 rfl) ?_
            refine lv_topi (fun x30 ex30 => ?_)
            have hF := lt_at ex30 hF
            refine lv_isub hx hb (dk DX11_holdsLine 72 rfl) ?_
            obtain ⟨h32, hF⟩ := ckB_ex hF
            refine r_iast C hR ob85 h32 (dk DX11_holdsLine 73 rfl) (fun H locs hR => ?_)
            obtain ⟨m31, em31, hF⟩ := lt_ex hF
            have hR := Rp_at em31 hR
            refine lv_goto (tgt := 267) hx hb (dk DX11_holdsLine 74 rfl) (by decide) ?_
            exact J267 x7 m31 _ _ ls (lv_sub hl [1, 2, 3, 4, 5, 6, 7] rfl) hR hF
        · have hF := if_f c56 hF
          refine lv_aload_n hx hb (dk DX11_holdsLine 35 rfl) rfl (lv_at hl 1 rfl) ?_
          refine gX11_36 C hR ob78 rf78_16 (dk DX11_holdsLine 36 rfl) ?_
          refine lv_iload hx hb (dk DX11_holdsLine 37 rfl) (lv_at hl 5 rfl) ?_
          refine lv_aload_n hx hb (dk DX11_holdsLine 38 rfl) rfl (lv_at hl 1 rfl) ?_
          refine lv_iload hx hb (dk DX11_holdsLine 39 rfl) (lv_at hl 0 rfl) ?_
          refine lv_aload_n hx hb (dk DX11_holdsLine 40 rfl) rfl (lv_at hl 1 rfl) ?_
          refine gX11_13 C hR ob78 rf78_1 (dk DX11_holdsLine 41 rfl) ?_
          refine lv_sipush (v := (335 : Int32)) hx hb (dk DX11_holdsLine 42 rfl) (by decide) ?_
          refine lv_iconst (v := (2 : Int32)) hx hb (dk DX11_holdsLine 43 rfl) (by decide) ?_
          refine lv_iload hx hb (dk DX11_holdsLine 44 rfl) (lv_at hl 7 rfl) ?_
          refine lv_imul hx hb (dk DX11_holdsLine 45 rfl) ?_
          refine lv_iadd hx hb (dk DX11_holdsLine 46 rfl) ?_
          refine lv_iconst (v := (1 : Int32)) hx hb (dk DX11_holdsLine 47 rfl) (by decide) ?_
          refine lv_iadd hx hb (dk DX11_holdsLine 48 rfl) ?_
          refine lv_topi (fun x33 ex33 => ?_)
          have hF := lt_at ex33 hF
          obtain ⟨h34, hF⟩ := ckB_ex hF
          refine r_iald C hR ob79 h34 (dk DX11_holdsLine 49 rfl) ?_
          refine lv_topi (fun x35 ex35 => ?_)
          have hF := lt_at ex35 hF
          refine lv_iload_n hx hb (dk DX11_holdsLine 50 rfl) rfl (lv_at hl 2 rfl) ?_
          refine lv_iload_n hx hb (dk DX11_holdsLine 51 rfl) rfl (lv_at hl 3 rfl) ?_
          refine lv_iload hx hb (dk DX11_holdsLine 52 rfl) (lv_at hl 4 rfl) ?_
          obtain ⟨x38, m36, hz37, hF⟩ := bnd_ex hF
          refine r_callVi (As := [.int x14, .int x35, .int a2, .int a3, .int a4]) (rest := [.int x7, .ref (G.2.1 + 85)]) C hR (C_M_factOf l hl0 G x14 x35 a2 a3 a4 m6 _ _ hz37) (by decide) (by decide) ob78 rfl wX11_230 rfl rfl (Nat.le_of_ble_eq_true rfl) hl.1 ⟨Nat.zero_le _, Nat.zero_le _⟩ (dk DX11_holdsLine 53 rfl) (fun H locs hR => ?_)
          obtain ⟨h40, hF⟩ := ckB_ex hF
          refine r_iast C hR ob85 h40 (dk DX11_holdsLine 54 rfl) (fun H locs hR => ?_)
          obtain ⟨m39, em39, hF⟩ := lt_ex hF
          have hR := Rp_at em39 hR
          obtain ⟨x41, ex41, hF⟩ := lt_ex hF
          refine lv_iinc (v := x41) (lv' := [(5, .int x41), (8, .int x14), (0, .ref (G.2.1 + 78)), (2, .int a2), (3, .int a3), (4, .int a4), (6, .int x1), (7, .int x8)]) hx hb (dk DX11_holdsLine 55 rfl) hl (k := 5) rfl (by rw [ex41]; rfl) (by decide) rfl (fun ls hl => ?_)
          refine lv_goto (tgt := 267) hx hb (dk DX11_holdsLine 56 rfl) (by decide) ?_
          exact J267 x41 m39 _ _ ls (lv_sub hl [2, 3, 4, 5, 0, 6, 7] rfl) hR hF
  exact L23 1000000 (0 : Int32) x3 m0 _ _ ls (lv_sub hl [3, 5, 6, 7, 2, 1, 0] rfl) hR hF
set_option maxHeartbeats 4000000 in
set_option maxRecDepth 100000 in
theorem C_M_levelOf (l : Launch) (hl0 : l.stackTraces = false) (G : GG) (a1 : Int32) (a2 : Int32) (a3 : Int32) (m0 : Mem) (v : Int32) (m' : Mem) (hF : F_M_levelOf a1 a2 a3 m0 = some (v, m')) : Ct l G mr0 N0 yX11_levelOf cX11_levelOf 6 (some .int) 3 [.ref (G.2.1 + 78), .int a1, .int a2, .int a3] m0 (some (.int v)) m' := by
  refine Ct_of hl0 (by decide) (Nat.le_of_ble_eq_true rfl) ?_
  intro p e s mid args below meth c ls C hrt hl hR
  have hx := C.1.1
  have hb := C.1.2.1
  have hl : lv_has ls 6 [(0, .ref (G.2.1 + 78)), (1, .int a1), (2, .int a2), (3, .int a3)] := hl
  unfold F_M_levelOf at hF
  refine lv_aload_n hx hb (dk DX11_levelOf 0 rfl) rfl (lv_at hl 0 rfl) ?_
  refine gX11_13 C hR ob78 rf78_1 (dk DX11_levelOf 1 rfl) ?_
  refine lv_iconst (v := (4 : Int32)) hx hb (dk DX11_levelOf 2 rfl) (by decide) ?_
  refine r_iald C hR ob79 rfl (dk DX11_levelOf 3 rfl) ?_
  refine lv_if_ne (tgt := 11) hx hb (dk DX11_levelOf 4 rfl) (by decide) (fun c6 => ?_) (fun c6 => ?_)
  · have hF := if_f c6 hF
    refine lv_iconst (v := (0 : Int32)) hx hb (dk DX11_levelOf 7 rfl) (by decide) ?_
    refine lv_istore (lv' := [(4, .int (0 : Int32)), (0, .ref (G.2.1 + 78)), (1, .int a1), (2, .int a2), (3, .int a3)]) hx hb (dk DX11_levelOf 8 rfl) hl (by decide) rfl (fun ls hl => ?_)
    refine lv_iconst (v := (0 : Int32)) hx hb (dk DX11_levelOf 9 rfl) (by decide) ?_
    refine lv_istore (lv' := [(5, .int (0 : Int32)), (4, .int (0 : Int32)), (0, .ref (G.2.1 + 78)), (1, .int a1), (2, .int a2), (3, .int a3)]) hx hb (dk DX11_levelOf 10 rfl) hl (by decide) rfl (fun ls hl => ?_)
    obtain ⟨k70_2, ek70_2, hF⟩ := lt_ex hF
    have J70 : ∀ (x2 : Int32) (m1 : Mem) (H : Heap) (locs : List Loc) (ls : Array Slot), lv_has ls 6 [(4, .int x2)] → Rp G mr0 N0 m1 s H locs → k70_2 x2 m1 = some (v, m') → W p l e (rmD 3) s mid args below meth c H locs 0 0 (MQ below (QR G mr0 N0 (some (.int v)) m') args s 0 0 (fun q => G.2.1 ≤ q)) (F0 mid 70 ls []) := by
      intro x2 m1 H locs ls hl hR hF
      rw [ek70_2] at hF
      refine lv_iconst (v := (3 : Int32)) hx hb (dk DX11_levelOf 39 rfl) (by decide) ?_
      refine lv_iload hx hb (dk DX11_levelOf 40 rfl) (lv_at hl 0 rfl) ?_
      refine r_mnI C (gd q1929 rfl) (by decide) (Nat.le_of_ble_eq_true rfl) hl.1 ⟨Nat.zero_le _, Nat.zero_le _⟩ (dk DX11_levelOf 41 rfl) ?_
      cases hF
      exact r_iret (v := mnI (3 : Int32) x2) C hrt hR (dk DX11_levelOf 42 rfl)
    have L17 : ∀ (nf : Nat) (x4 : Int32) (x5 : Int32) (m3 : Mem) (H : Heap) (locs : List Loc) (ls : Array Slot), lv_has ls 6 [(0, .ref (G.2.1 + 78)), (1, .int a1), (2, .int a2), (3, .int a3), (4, .int x4), (5, .int x5)] → Rp G mr0 N0 m3 s H locs → F_M_levelOf_L17 a1 a2 a3 k70_2 nf x4 x5 m3 = some (v, m') → W p l e (rmD 3) s mid args below meth c H locs 0 0 (MQ below (QR G mr0 N0 (some (.int v)) m') args s 0 0 (fun q => G.2.1 ≤ q)) (F0 mid 17 ls []) := by
      intro nf
      induction nf with
      | zero =>
        intro x4 x5 m3 H locs ls hl hR hF
        rw [F_M_levelOf_L17] at hF
        cases hF
      | succ nf ih7 =>
        intro x4 x5 m3 H locs ls hl hR hF
        rw [F_M_levelOf_L17] at hF
        refine lv_iload hx hb (dk DX11_levelOf 11 rfl) (lv_at hl 5 rfl) ?_
        refine lv_aload_n hx hb (dk DX11_levelOf 12 rfl) rfl (lv_at hl 0 rfl) ?_
        refine gX11_13 C hR ob78 rf78_1 (dk DX11_levelOf 13 rfl) ?_
        refine lv_sipush (v := (298 : Int32)) hx hb (dk DX11_levelOf 14 rfl) (by decide) ?_
        refine r_iald C hR ob79 rfl (dk DX11_levelOf 15 rfl) ?_
        refine lv_icmp_ge (tgt := 70) hx hb (dk DX11_levelOf 16 rfl) (by decide) (fun c27 => ?_) (fun c27 => ?_)
        · have hF := if_t c27 hF
          exact J70 x4 m3 _ _ ls (lv_sub hl [4] rfl) hR hF
        · have hF := if_f c27 hF
          refine lv_iload hx hb (dk DX11_levelOf 17 rfl) (lv_at hl 4 rfl) ?_
          refine lv_aload_n hx hb (dk DX11_levelOf 18 rfl) rfl (lv_at hl 0 rfl) ?_
          refine lv_iload hx hb (dk DX11_levelOf 19 rfl) (lv_at hl 5 rfl) ?_
          refine lv_iload_n hx hb (dk DX11_levelOf 20 rfl) rfl (lv_at hl 1 rfl) ?_
          refine lv_iload_n hx hb (dk DX11_levelOf 21 rfl) rfl (lv_at hl 2 rfl) ?_
          refine lv_iload_n hx hb (dk DX11_levelOf 22 rfl) rfl (lv_at hl 3 rfl) ?_
          obtain ⟨z10, m8, hz9, hF⟩ := bnd_ex hF
          refine r_callVi (As := [.int x5, .int a1, .int a2, .int a3]) (rest := [.int x4]) C hR (C_M_holdsLine l hl0 G x5 a1 a2 a3 m3 _ _ hz9) (by decide) (by decide) ob78 rfl wX11_234 rfl rfl (Nat.le_of_ble_eq_true rfl) hl.1 ⟨Nat.zero_le _, Nat.zero_le _⟩ (dk DX11_levelOf 23 rfl) (fun H locs hR => ?_)
          obtain ⟨k61_12, ek61_12, hF⟩ := lt_ex hF
          have J61 : ∀ (x12 : Int32) (m11 : Mem) (H : Heap) (locs : List Loc) (ls : Array Slot), lv_has ls 6 [(0, .ref (G.2.1 + 78)), (1, .int a1), (2, .int a2), (3, .int a3), (5, .int x5)] → Rp G mr0 N0 m11 s H locs → k61_12 x12 m11 = some (v, m') → W p l e (rmD 3) s mid args below meth c H locs 0 0 (MQ below (QR G mr0 N0 (some (.int v)) m') args s 0 0 (fun q => G.2.1 ≤ q)) (F0 mid 61 ls [.int x12, .int x4]) := by
            intro x12 m11 H locs ls hl hR hF
            rw [ek61_12] at hF
            refine lv_iadd hx hb (dk DX11_levelOf 35 rfl) ?_
            refine lv_topi (fun x13 ex13 => ?_)
            have hF := lt_at ex13 hF
            refine lv_istore (lv' := [(4, .int x13), (0, .ref (G.2.1 + 78)), (1, .int a1), (2, .int a2), (3, .int a3), (5, .int x5)]) hx hb (dk DX11_levelOf 36 rfl) hl (by decide) rfl (fun ls hl => ?_)
            obtain ⟨x14, ex14, hF⟩ := lt_ex hF
            refine lv_iinc (v := x14) (lv' := [(5, .int x14), (4, .int x13), (0, .ref (G.2.1 + 78)), (1, .int a1), (2, .int a2), (3, .int a3)]) hx hb (dk DX11_levelOf 37 rfl) hl (k := 5) rfl (by rw [ex14]; rfl) (by decide) rfl (fun ls hl => ?_)
            refine lv_goto (tgt := 17) hx hb (dk DX11_levelOf 38 rfl) (by decide) ?_
            exact ih7 x13 x14 m11 _ _ ls (lv_sub hl [2, 3, 4, 5, 1, 0] rfl) hR hF
          refine z_ifeq (tgt := 60) hx hb (dk DX11_levelOf 24 rfl) (by decide) (fun c41 => ?_) (fun c41 => ?_)
          · have hF := if_f c41 hF
            refine lv_iconst (v := (0 : Int32)) hx hb (dk DX11_levelOf 34 rfl) (by decide) ?_
            exact J61 (0 : Int32) m8 _ _ ls (lv_sub hl [0, 1, 2, 3, 5] rfl) hR hF
          · have hF := if_t c41 hF
            refine lv_aload_n hx hb (dk DX11_levelOf 25 rfl) rfl (lv_at hl 0 rfl) ?_
            refine gX11_13 C hR ob78 rf78_1 (dk DX11_levelOf 26 rfl) ?_
            refine lv_sipush (v := (299 : Int32)) hx hb (dk DX11_levelOf 27 rfl) (by decide) ?_
            refine lv_iconst (v := (3 : Int32)) hx hb (dk DX11_levelOf 28 rfl) (by decide) ?_
            refine lv_iload hx hb (dk DX11_levelOf 29 rfl) (lv_at hl 5 rfl) ?_
            refine lv_imul hx hb (dk DX11_levelOf 30 rfl) ?_
            refine lv_iadd hx hb (dk DX11_levelOf 31 rfl) ?_
            obtain ⟨h15, hF⟩ := ckB_ex hF
            refine r_iald C hR ob79 h15 (dk DX11_levelOf 32 rfl) ?_
            refine lv_topi (fun x16 ex16 => ?_)
            have hF := lt_at ex16 hF
            refine lv_goto (tgt := 61) hx hb (dk DX11_levelOf 33 rfl) (by decide) ?_
            exact J61 x16 m8 _ _ ls (lv_sub hl [0, 1, 2, 3, 5] rfl) hR hF
    exact L17 1000000 (0 : Int32) (0 : Int32) m0 _ _ ls (lv_sub hl [2, 3, 4, 5, 1, 0] rfl) hR hF
  · have hF := if_t c6 hF
    refine lv_iconst (v := (1 : Int32)) hx hb (dk DX11_levelOf 5 rfl) (by decide) ?_
    cases hF
    exact r_iret (v := (1 : Int32)) C hrt hR (dk DX11_levelOf 6 rfl)
set_option maxHeartbeats 4000000 in
set_option maxRecDepth 100000 in
theorem C_M_laysLevels (l : Launch) (hl0 : l.stackTraces = false) (G : GG) (a1 : Int32) (m0 : Mem) (v : Unit) (m' : Mem) (hF : F_M_laysLevels a1 m0 = some (v, m')) : Ct l G mr0 N0 yX11_laysLevels cX11_laysLevels 3 none 4 [.ref (G.2.1 + 78), .int a1] m0 none m' := by
  refine Ct_of hl0 (by decide) (Nat.le_of_ble_eq_true rfl) ?_
  intro p e s mid args below meth c ls C hrt hl hR
  have hx := C.1.1
  have hb := C.1.2.1
  have hl : lv_has ls 3 [(0, .ref (G.2.1 + 78)), (1, .int a1)] := hl
  unfold F_M_laysLevels at hF
  refine lv_iconst (v := (0 : Int32)) hx hb (dk DX11_laysLevels 0 rfl) (by decide) ?_
  refine lv_istore_n (lv' := [(2, .int (0 : Int32)), (0, .ref (G.2.1 + 78)), (1, .int a1)]) hx hb (dk DX11_laysLevels 1 rfl) rfl hl (by decide) rfl (fun ls hl => ?_)
  have L2 : ∀ (nf : Nat) (x2 : Int32) (m1 : Mem) (H : Heap) (locs : List Loc) (ls : Array Slot), lv_has ls 3 [(0, .ref (G.2.1 + 78)), (1, .int a1), (2, .int x2)] → Rp G mr0 N0 m1 s H locs → F_M_laysLevels_L2 a1 nf x2 m1 = some (v, m') → W p l e (rmD 4) s mid args below meth c H locs 0 0 (MQ below (QR G mr0 N0 none m') args s 0 0 (fun q => G.2.1 ≤ q)) (F0 mid 2 ls []) := by
    intro nf
    induction nf with
    | zero =>
      intro x2 m1 H locs ls hl hR hF
      rw [F_M_laysLevels_L2] at hF
      cases hF
    | succ nf ih4 =>
      intro x2 m1 H locs ls hl hR hF
      rw [F_M_laysLevels_L2] at hF
      refine lv_iload_n hx hb (dk DX11_laysLevels 2 rfl) rfl (lv_at hl 2 rfl) ?_
      refine lv_bipush (v := (6 : Int32)) hx hb (dk DX11_laysLevels 3 rfl) (by decide) ?_
      refine lv_icmp_ge (tgt := 44) hx hb (dk DX11_laysLevels 4 rfl) (by decide) (fun c5 => ?_) (fun c5 => ?_)
      · have hF := if_t c5 hF
        cases hF
        exact r_vret C hrt hR (dk DX11_laysLevels 23 rfl)
      · have hF := if_f c5 hF
        refine lv_aload_n hx hb (dk DX11_laysLevels 5 rfl) rfl (lv_at hl 0 rfl) ?_
        refine gX11_46 C hR ob78 rf78_19 (dk DX11_laysLevels 6 rfl) ?_
        refine lv_iload_n hx hb (dk DX11_laysLevels 7 rfl) rfl (lv_at hl 2 rfl) ?_
        refine lv_aload_n hx hb (dk DX11_laysLevels 8 rfl) rfl (lv_at hl 0 rfl) ?_
        refine lv_iload_n hx hb (dk DX11_laysLevels 9 rfl) rfl (lv_at hl 1 rfl) ?_
        refine lv_iload_n hx hb (dk DX11_laysLevels 10 rfl) rfl (lv_at hl 2 rfl) ?_
        obtain ⟨x7, m5, hz6, hF⟩ := bnd_ex hF
        refine r_callSi (As := [.int x2]) (rest := [.int a1, .ref (G.2.1 + 78), .int x2, .ref (G.2.1 + 88)]) C hR (C_M_inningsOf l hl0 G x2 m1 _ _ hz6) (by decide) (by decide) wX11_323 rfl rfl (Nat.le_of_ble_eq_true rfl) hl.1 ⟨Nat.zero_le _, Nat.zero_le _⟩ (dk DX11_laysLevels 11 rfl) (fun H locs hR => ?_)
        refine lv_aload_n hx hb (dk DX11_laysLevels 12 rfl) rfl (lv_at hl 0 rfl) ?_
        refine gX11_326 C hR ob78 (dk DX11_laysLevels 13 rfl) ?_
        refine lv_iload_n hx hb (dk DX11_laysLevels 14 rfl) rfl (lv_at hl 2 rfl) ?_
        obtain ⟨x10, m8, hz9, hF⟩ := bnd_ex hF
        refine r_callSi (As := [.int x2]) (rest := [.int (gI m5 78 20), .int x7, .int a1, .ref (G.2.1 + 78), .int x2, .ref (G.2.1 + 88)]) C hR (C_M_inningsOf l hl0 G x2 m5 _ _ hz9) (by decide) (by decide) wX11_323 rfl rfl (Nat.le_of_ble_eq_true rfl) hl.1 ⟨Nat.zero_le _, Nat.zero_le _⟩ (dk DX11_laysLevels 15 rfl) (fun H locs hR => ?_)
        refine lv_iload_n hx hb (dk DX11_laysLevels 16 rfl) rfl (lv_at hl 2 rfl) ?_
        obtain ⟨z13, m11, hz12, hF⟩ := bnd_ex hF
        refine r_callSi (As := [.int x2]) (rest := [.int x10, .int (gI m5 78 20), .int x7, .int a1, .ref (G.2.1 + 78), .int x2, .ref (G.2.1 + 88)]) C hR (C_M_isBehind l hl0 G x2 m8 _ _ hz12) (by decide) (by decide) wX11_329 rfl rfl (Nat.le_of_ble_eq_true rfl) hl.1 ⟨Nat.zero_le _, Nat.zero_le _⟩ (dk DX11_laysLevels 17 rfl) (fun H locs hR => ?_)
        obtain ⟨x16, m14, hz15, hF⟩ := bnd_ex hF
        refine r_callSi (As := [.int (gI m5 78 20), .int x10, .int (b2i z13)]) (rest := [.int x7, .int a1, .ref (G.2.1 + 78), .int x2, .ref (G.2.1 + 88)]) C hR (C_M_batting l hl0 G (gI m5 78 20) x10 z13 m11 _ _ hz15) (by decide) (by decide) wX11_271 rfl rfl (Nat.le_of_ble_eq_true rfl) hl.1 ⟨Nat.zero_le _, Nat.zero_le _⟩ (dk DX11_laysLevels 18 rfl) (fun H locs hR => ?_)
        obtain ⟨x19, m17, hz18, hF⟩ := bnd_ex hF
        refine r_callVi (As := [.int a1, .int x7, .int x16]) (rest := [.int x2, .ref (G.2.1 + 88)]) C hR (C_M_levelOf l hl0 G a1 x7 x16 m14 _ _ hz18) (by decide) (by decide) ob78 rfl wX11_259 rfl rfl (Nat.le_of_ble_eq_true rfl) hl.1 ⟨Nat.zero_le _, Nat.zero_le _⟩ (dk DX11_laysLevels 19 rfl) (fun H locs hR => ?_)
        obtain ⟨h21, hF⟩ := ckB_ex hF
        refine r_iast C hR ob88 h21 (dk DX11_laysLevels 20 rfl) (fun H locs hR => ?_)
        obtain ⟨m20, em20, hF⟩ := lt_ex hF
        have hR := Rp_at em20 hR
        obtain ⟨x22, ex22, hF⟩ := lt_ex hF
        refine lv_iinc (v := x22) (lv' := [(2, .int x22), (0, .ref (G.2.1 + 78)), (1, .int a1)]) hx hb (dk DX11_laysLevels 21 rfl) hl (k := 2) rfl (by rw [ex22]; rfl) (by decide) rfl (fun ls hl => ?_)
        refine lv_goto (tgt := 2) hx hb (dk DX11_laysLevels 22 rfl) (by decide) ?_
        exact ih4 x22 m20 _ _ ls (lv_sub hl [1, 2, 0] rfl) hR hF
  exact L2 1000000 (0 : Int32) m0 _ _ ls (lv_sub hl [1, 2, 0] rfl) hR hF
set_option maxHeartbeats 4000000 in
set_option maxRecDepth 100000 in
theorem C_M_has (l : Launch) (hl0 : l.stackTraces = false) (G : GG) (a0 : Int32) (a1 : Int32) (m0 : Mem) (v : Bool) (m' : Mem) (hF : F_M_has a0 a1 m0 = some (v, m')) : Ct l G mr0 N0 yX11_has cX11_has 2 (some .boolean) 1 [.int a0, .int a1] m0 (some (.int (b2i v))) m' := by
  refine Ct_of hl0 (by decide) (Nat.le_of_ble_eq_true rfl) ?_
  intro p e s mid args below meth c ls C hrt hl hR
  have hx := C.1.1
  have hb := C.1.2.1
  have hl : lv_has ls 2 [(0, .int a0), (1, .int a1)] := hl
  unfold F_M_has at hF
  refine lv_iload_n hx hb (dk DX11_has 0 rfl) rfl (lv_at hl 0 rfl) ?_
  refine lv_iload_n hx hb (dk DX11_has 1 rfl) rfl (lv_at hl 1 rfl) ?_
  refine lv_ishr hx hb (dk DX11_has 2 rfl) ?_
  refine lv_iconst (v := (1 : Int32)) hx hb (dk DX11_has 3 rfl) (by decide) ?_
  refine lv_iand hx hb (dk DX11_has 4 rfl) ?_
  refine lv_iconst (v := (1 : Int32)) hx hb (dk DX11_has 5 rfl) (by decide) ?_
  refine lv_icmp_ne (tgt := 13) hx hb (dk DX11_has 6 rfl) (by decide) (fun c6 => ?_) (fun c6 => ?_)
  · have hF := if_f c6 hF
    refine lv_iconst (v := (0 : Int32)) hx hb (dk DX11_has 9 rfl) (by decide) ?_
    cases hF
    exact r_zret (v := false) C hrt hR (dk DX11_has 10 rfl)
  · have hF := if_t c6 hF
    refine lv_iconst (v := (1 : Int32)) hx hb (dk DX11_has 7 rfl) (by decide) ?_
    refine lv_goto (tgt := 14) hx hb (dk DX11_has 8 rfl) (by decide) ?_
    cases hF
    exact r_zret (v := true) C hrt hR (dk DX11_has 10 rfl)
set_option maxHeartbeats 4000000 in
set_option maxRecDepth 100000 in
theorem C_M_isRain (l : Launch) (hl0 : l.stackTraces = false) (G : GG) (a1 : Int32) (m0 : Mem) (v : Bool) (m' : Mem) (hF : F_M_isRain a1 m0 = some (v, m')) : Ct l G mr0 N0 yX11_isRain cX11_isRain 2 (some .boolean) 2 [.ref (G.2.1 + 78), .int a1] m0 (some (.int (b2i v))) m' := by
  refine Ct_of hl0 (by decide) (Nat.le_of_ble_eq_true rfl) ?_
  intro p e s mid args below meth c ls C hrt hl hR
  have hx := C.1.1
  have hb := C.1.2.1
  have hl : lv_has ls 2 [(0, .ref (G.2.1 + 78)), (1, .int a1)] := hl
  unfold F_M_isRain at hF
  refine lv_aload_n hx hb (dk DX11_isRain 0 rfl) rfl (lv_at hl 0 rfl) ?_
  refine gX11_13 C hR ob78 rf78_1 (dk DX11_isRain 1 rfl) ?_
  refine lv_bipush (v := (8 : Int32)) hx hb (dk DX11_isRain 2 rfl) (by decide) ?_
  refine r_iald C hR ob79 rfl (dk DX11_isRain 3 rfl) ?_
  refine lv_iload_n hx hb (dk DX11_isRain 4 rfl) rfl (lv_at hl 1 rfl) ?_
  obtain ⟨z3, m1, hz2, hF⟩ := bnd_ex hF
  refine r_callSi (As := [.int (gI m0 79 8), .int a1]) (rest := []) C hR (C_M_has l hl0 G (gI m0 79 8) a1 m0 _ _ hz2) (by decide) (by decide) wX11_300 rfl rfl (Nat.le_of_ble_eq_true rfl) hl.1 ⟨Nat.zero_le _, Nat.zero_le _⟩ (dk DX11_isRain 5 rfl) (fun H locs hR => ?_)
  cases hF
  exact r_zret (v := z3) C hrt hR (dk DX11_isRain 6 rfl)
set_option maxHeartbeats 4000000 in
set_option maxRecDepth 100000 in
theorem C_M_ofSlot (l : Launch) (hl0 : l.stackTraces = false) (G : GG) (a1 : Int32) (a2 : Int32) (a3 : Int32) (m0 : Mem) (v : Int32) (m' : Mem) (hF : F_M_ofSlot a1 a2 a3 m0 = some (v, m')) : Ct l G mr0 N0 yX11_ofSlot cX11_ofSlot 4 (some .int) 1 [.ref (G.2.1 + 78), .int a1, .int a2, .int a3] m0 (some (.int v)) m' := by
  refine Ct_of hl0 (by decide) (Nat.le_of_ble_eq_true rfl) ?_
  intro p e s mid args below meth c ls C hrt hl hR
  have hx := C.1.1
  have hb := C.1.2.1
  have hl : lv_has ls 4 [(0, .ref (G.2.1 + 78)), (1, .int a1), (2, .int a2), (3, .int a3)] := hl
  unfold F_M_ofSlot at hF
  refine lv_aload_n hx hb (dk DX11_ofSlot 0 rfl) rfl (lv_at hl 0 rfl) ?_
  refine gX11_13 C hR ob78 rf78_1 (dk DX11_ofSlot 1 rfl) ?_
  refine lv_bipush (v := (23 : Int32)) hx hb (dk DX11_ofSlot 2 rfl) (by decide) ?_
  refine lv_iconst (v := (2 : Int32)) hx hb (dk DX11_ofSlot 3 rfl) (by decide) ?_
  refine lv_iconst (v := (4 : Int32)) hx hb (dk DX11_ofSlot 4 rfl) (by decide) ?_
  refine lv_iload_n hx hb (dk DX11_ofSlot 5 rfl) rfl (lv_at hl 1 rfl) ?_
  refine lv_imul hx hb (dk DX11_ofSlot 6 rfl) ?_
  refine lv_iload_n hx hb (dk DX11_ofSlot 7 rfl) rfl (lv_at hl 2 rfl) ?_
  refine lv_iadd hx hb (dk DX11_ofSlot 8 rfl) ?_
  refine lv_imul hx hb (dk DX11_ofSlot 9 rfl) ?_
  refine lv_iadd hx hb (dk DX11_ofSlot 10 rfl) ?_
  refine lv_topi (fun x1 ex1 => ?_)
  have hF := lt_at ex1 hF
  refine lv_iload_n hx hb (dk DX11_ofSlot 11 rfl) rfl (lv_at hl 3 rfl) ?_
  refine lv_iadd hx hb (dk DX11_ofSlot 12 rfl) ?_
  obtain ⟨h2, hF⟩ := ckB_ex hF
  refine r_iald C hR ob79 h2 (dk DX11_ofSlot 13 rfl) ?_
  refine lv_topi (fun x3 ex3 => ?_)
  have hF := lt_at ex3 hF
  cases hF
  exact r_iret (v := x3) C hrt hR (dk DX11_ofSlot 14 rfl)
set_option maxHeartbeats 4000000 in
set_option maxRecDepth 100000 in
theorem C_M_runsOf (l : Launch) (hl0 : l.stackTraces = false) (G : GG) (a1 : Int32) (a2 : Int32) (a3 : Int32) (a4 : Bool) (m0 : Mem) (v : Int32) (m' : Mem) (hF : F_M_runsOf a1 a2 a3 a4 m0 = some (v, m')) : Ct l G mr0 N0 yX11_runsOf cX11_runsOf 5 (some .int) 3 [.ref (G.2.1 + 78), .int a1, .int a2, .int a3, .int (b2i a4)] m0 (some (.int v)) m' := by
  refine Ct_of hl0 (by decide) (Nat.le_of_ble_eq_true rfl) ?_
  intro p e s mid args below meth c ls C hrt hl hR
  have hx := C.1.1
  have hb := C.1.2.1
  have hl : lv_has ls 5 [(0, .ref (G.2.1 + 78)), (1, .int a1), (2, .int a2), (3, .int a3), (4, .int (b2i a4))] := hl
  unfold F_M_runsOf at hF
  refine lv_iload hx hb (dk DX11_runsOf 0 rfl) (lv_at hl 4 rfl) ?_
  refine z_ifne (tgt := 13) hx hb (dk DX11_runsOf 1 rfl) (by decide) (fun c2 => ?_) (fun c2 => ?_)
  · have hF := if_t c2 hF
    refine lv_iconst (v := (0 : Int32)) hx hb (dk DX11_runsOf 6 rfl) (by decide) ?_
    refine lv_goto (tgt := 29) hx hb (dk DX11_runsOf 7 rfl) (by decide) ?_
    cases hF
    exact r_iret (v := (0 : Int32)) C hrt hR (dk DX11_runsOf 16 rfl)
  · have hF := if_f c2 hF
    refine lv_aload_n hx hb (dk DX11_runsOf 2 rfl) rfl (lv_at hl 0 rfl) ?_
    refine lv_iload_n hx hb (dk DX11_runsOf 3 rfl) rfl (lv_at hl 1 rfl) ?_
    obtain ⟨z3, m1, hz2, hF⟩ := bnd_ex hF
    refine r_callVi (As := [.int a1]) (rest := []) C hR (C_M_isRain l hl0 G a1 m0 _ _ hz2) (by decide) (by decide) ob78 rfl wX11_262 rfl rfl (Nat.le_of_ble_eq_true rfl) hl.1 ⟨Nat.zero_le _, Nat.zero_le _⟩ (dk DX11_runsOf 4 rfl) (fun H locs hR => ?_)
    refine z_ifeq (tgt := 17) hx hb (dk DX11_runsOf 5 rfl) (by decide) (fun c10 => ?_) (fun c10 => ?_)
    · have hF := if_f c10 hF
      refine lv_aload_n hx hb (dk DX11_runsOf 8 rfl) rfl (lv_at hl 0 rfl) ?_
      refine lv_aload_n hx hb (dk DX11_runsOf 9 rfl) rfl (lv_at hl 0 rfl) ?_
      refine gX11_46 C hR ob78 rf78_19 (dk DX11_runsOf 10 rfl) ?_
      refine lv_iload_n hx hb (dk DX11_runsOf 11 rfl) rfl (lv_at hl 2 rfl) ?_
      obtain ⟨h4, hF⟩ := ckB_ex hF
      refine r_iald C hR ob88 h4 (dk DX11_runsOf 12 rfl) ?_
      refine lv_topi (fun x5 ex5 => ?_)
      have hF := lt_at ex5 hF
      refine lv_iload_n hx hb (dk DX11_runsOf 13 rfl) rfl (lv_at hl 3 rfl) ?_
      refine lv_iconst (v := (0 : Int32)) hx hb (dk DX11_runsOf 14 rfl) (by decide) ?_
      obtain ⟨x8, m6, hz7, hF⟩ := bnd_ex hF
      refine r_callVi (As := [.int x5, .int a3, .int (0 : Int32)]) (rest := []) C hR (C_M_ofSlot l hl0 G x5 a3 (0 : Int32) m1 _ _ hz7) (by decide) (by decide) ob78 rfl wX11_249 rfl rfl (Nat.le_of_ble_eq_true rfl) hl.1 ⟨Nat.zero_le _, Nat.zero_le _⟩ (dk DX11_runsOf 15 rfl) (fun H locs hR => ?_)
      cases hF
      exact r_iret (v := x8) C hrt hR (dk DX11_runsOf 16 rfl)
    · have hF := if_t c10 hF
      refine lv_iconst (v := (0 : Int32)) hx hb (dk DX11_runsOf 6 rfl) (by decide) ?_
      refine lv_goto (tgt := 29) hx hb (dk DX11_runsOf 7 rfl) (by decide) ?_
      cases hF
      exact r_iret (v := (0 : Int32)) C hrt hR (dk DX11_runsOf 16 rfl)
set_option maxHeartbeats 4000000 in
set_option maxRecDepth 100000 in
theorem C_M_outsOf (l : Launch) (hl0 : l.stackTraces = false) (G : GG) (a1 : Int32) (a2 : Int32) (a3 : Int32) (a4 : Bool) (m0 : Mem) (v : Int32) (m' : Mem) (hF : F_M_outsOf a1 a2 a3 a4 m0 = some (v, m')) : Ct l G mr0 N0 yX11_outsOf cX11_outsOf 5 (some .int) 3 [.ref (G.2.1 + 78), .int a1, .int a2, .int a3, .int (b2i a4)] m0 (some (.int v)) m' := by
  refine Ct_of hl0 (by decide) (Nat.le_of_ble_eq_true rfl) ?_
  intro p e s mid args below meth c ls C hrt hl hR
  have hx := C.1.1
  have hb := C.1.2.1
  have hl : lv_has ls 5 [(0, .ref (G.2.1 + 78)), (1, .int a1), (2, .int a2), (3, .int a3), (4, .int (b2i a4))] := hl
  unfold F_M_outsOf at hF
  refine lv_aload_n hx hb (dk DX11_outsOf 0 rfl) rfl (lv_at hl 0 rfl) ?_
  refine lv_iload_n hx hb (dk DX11_outsOf 1 rfl) rfl (lv_at hl 1 rfl) ?_
  obtain ⟨z3, m1, hz2, hF⟩ := bnd_ex hF
  refine r_callVi (As := [.int a1]) (rest := []) C hR (C_M_isRain l hl0 G a1 m0 _ _ hz2) (by decide) (by decide) ob78 rfl wX11_262 rfl rfl (Nat.le_of_ble_eq_true rfl) hl.1 ⟨Nat.zero_le _, Nat.zero_le _⟩ (dk DX11_outsOf 2 rfl) (fun H locs hR => ?_)
  refine z_ifeq (tgt := 12) hx hb (dk DX11_outsOf 3 rfl) (by decide) (fun c5 => ?_) (fun c5 => ?_)
  · have hF := if_f c5 hF
    refine lv_iconst (v := (0 : Int32)) hx hb (dk DX11_outsOf 6 rfl) (by decide) ?_
    refine lv_aload_n hx hb (dk DX11_outsOf 7 rfl) rfl (lv_at hl 0 rfl) ?_
    refine lv_aload_n hx hb (dk DX11_outsOf 8 rfl) rfl (lv_at hl 0 rfl) ?_
    refine gX11_46 C hR ob78 rf78_19 (dk DX11_outsOf 9 rfl) ?_
    refine lv_iload_n hx hb (dk DX11_outsOf 10 rfl) rfl (lv_at hl 2 rfl) ?_
    obtain ⟨h4, hF⟩ := ckB_ex hF
    refine r_iald C hR ob88 h4 (dk DX11_outsOf 11 rfl) ?_
    refine lv_topi (fun x5 ex5 => ?_)
    have hF := lt_at ex5 hF
    refine lv_iload_n hx hb (dk DX11_outsOf 12 rfl) rfl (lv_at hl 3 rfl) ?_
    refine lv_iconst (v := (1 : Int32)) hx hb (dk DX11_outsOf 13 rfl) (by decide) ?_
    obtain ⟨x8, m6, hz7, hF⟩ := bnd_ex hF
    refine r_callVi (As := [.int x5, .int a3, .int (1 : Int32)]) (rest := [.int (0 : Int32)]) C hR (C_M_ofSlot l hl0 G x5 a3 (1 : Int32) m1 _ _ hz7) (by decide) (by decide) ob78 rfl wX11_249 rfl rfl (Nat.le_of_ble_eq_true rfl) hl.1 ⟨Nat.zero_le _, Nat.zero_le _⟩ (dk DX11_outsOf 14 rfl) (fun H locs hR => ?_)
    refine lv_iload hx hb (dk DX11_outsOf 15 rfl) (lv_at hl 4 rfl) ?_
    obtain ⟨k35_10, ek35_10, hF⟩ := lt_ex hF
    have J35 : ∀ (z10 : Bool) (m9 : Mem) (H : Heap) (locs : List Loc) (ls : Array Slot), lv_has ls 5 [] → Rp G mr0 N0 m9 s H locs → k35_10 z10 m9 = some (v, m') → W p l e (rmD 3) s mid args below meth c H locs 0 0 (MQ below (QR G mr0 N0 (some (.int v)) m') args s 0 0 (fun q => G.2.1 ≤ q)) (F0 mid 35 ls [.int (b2i z10), .int x8, .int (0 : Int32)]) := by
      intro z10 m9 H locs ls hl hR hF
      rw [ek35_10] at hF
      refine lv_isub hx hb (dk DX11_outsOf 20 rfl) ?_
      refine r_mxI C (gd q2005 rfl) (by decide) (Nat.le_of_ble_eq_true rfl) hl.1 ⟨Nat.zero_le _, Nat.zero_le _⟩ (dk DX11_outsOf 21 rfl) ?_
      cases hF
      exact r_iret (v := mxI (0 : Int32) (x8 - (b2i z10))) C hrt hR (dk DX11_outsOf 22 rfl)
    refine z_ifeq (tgt := 34) hx hb (dk DX11_outsOf 16 rfl) (by decide) (fun c27 => ?_) (fun c27 => ?_)
    · have hF := if_f c27 hF
      refine lv_iconst (v := (0 : Int32)) hx hb (dk DX11_outsOf 19 rfl) (by decide) ?_
      exact J35 false m6 _ _ ls (lv_sub hl [] rfl) hR hF
    · have hF := if_t c27 hF
      refine lv_iconst (v := (1 : Int32)) hx hb (dk DX11_outsOf 17 rfl) (by decide) ?_
      refine lv_goto (tgt := 35) hx hb (dk DX11_outsOf 18 rfl) (by decide) ?_
      exact J35 true m6 _ _ ls (lv_sub hl [] rfl) hR hF
  · have hF := if_t c5 hF
    refine lv_iconst (v := (0 : Int32)) hx hb (dk DX11_outsOf 4 rfl) (by decide) ?_
    refine lv_goto (tgt := 39) hx hb (dk DX11_outsOf 5 rfl) (by decide) ?_
    cases hF
    exact r_iret (v := (0 : Int32)) C hrt hR (dk DX11_outsOf 22 rfl)
set_option maxHeartbeats 4000000 in
set_option maxRecDepth 100000 in
theorem C_M_nextKind (l : Launch) (hl0 : l.stackTraces = false) (G : GG) (a0 : Int32) (m0 : Mem) (v : Int32) (m' : Mem) (hF : F_M_nextKind a0 m0 = some (v, m')) : Ct l G mr0 N0 yX11_nextKind cX11_nextKind 1 (some .int) 1 [.int a0] m0 (some (.int v)) m' := by
  refine Ct_of hl0 (by decide) (Nat.le_of_ble_eq_true rfl) ?_
  intro p e s mid args below meth c ls C hrt hl hR
  have hx := C.1.1
  have hb := C.1.2.1
  have hl : lv_has ls 1 [(0, .int a0)] := hl
  unfold F_M_nextKind at hF
  refine lv_iload_n hx hb (dk DX11_nextKind 0 rfl) rfl (lv_at hl 0 rfl) ?_
  refine lv_iconst (v := (2 : Int32)) hx hb (dk DX11_nextKind 1 rfl) (by decide) ?_
  refine lv_icmp_ge (tgt := 11) hx hb (dk DX11_nextKind 2 rfl) (by decide) (fun c2 => ?_) (fun c2 => ?_)
  · have hF := if_t c2 hF
    refine lv_iload_n hx hb (dk DX11_nextKind 7 rfl) rfl (lv_at hl 0 rfl) ?_
    refine lv_iconst (v := (2 : Int32)) hx hb (dk DX11_nextKind 8 rfl) (by decide) ?_
    refine lv_iadd hx hb (dk DX11_nextKind 9 rfl) ?_
    cases hF
    exact r_iret (v := a0 + (2 : Int32)) C hrt hR (dk DX11_nextKind 10 rfl)
  · have hF := if_f c2 hF
    refine lv_iload_n hx hb (dk DX11_nextKind 3 rfl) rfl (lv_at hl 0 rfl) ?_
    refine lv_iconst (v := (1 : Int32)) hx hb (dk DX11_nextKind 4 rfl) (by decide) ?_
    refine lv_iadd hx hb (dk DX11_nextKind 5 rfl) ?_
    refine lv_goto (tgt := 14) hx hb (dk DX11_nextKind 6 rfl) (by decide) ?_
    cases hF
    exact r_iret (v := a0 + (1 : Int32)) C hrt hR (dk DX11_nextKind 10 rfl)
set_option maxHeartbeats 4000000 in
set_option maxRecDepth 100000 in
theorem C_M_cell (l : Launch) (hl0 : l.stackTraces = false) (G : GG) (a0 : Int32) (a1 : Int32) (a2 : Int32) (a3 : Int32) (m0 : Mem) (v : Int32) (m' : Mem) (hF : F_M_cell a0 a1 a2 a3 m0 = some (v, m')) : Ct l G mr0 N0 yX11_cell cX11_cell 4 (some .int) 1 [.int a0, .int a1, .int a2, .int a3] m0 (some (.int v)) m' := by
  refine Ct_of hl0 (by decide) (Nat.le_of_ble_eq_true rfl) ?_
  intro p e s mid args below meth c ls C hrt hl hR
  have hx := C.1.1
  have hb := C.1.2.1
  have hl : lv_has ls 4 [(0, .int a0), (1, .int a1), (2, .int a2), (3, .int a3)] := hl
  unfold F_M_cell at hF
  refine lv_iload_n hx hb (dk DX11_cell 0 rfl) rfl (lv_at hl 0 rfl) ?_
  refine lv_iconst (v := (1 : Int32)) hx hb (dk DX11_cell 1 rfl) (by decide) ?_
  refine lv_iand hx hb (dk DX11_cell 2 rfl) ?_
  refine lv_sipush (v := (21450 : Int32)) hx hb (dk DX11_cell 3 rfl) (by decide) ?_
  refine lv_imul hx hb (dk DX11_cell 4 rfl) ?_
  refine lv_iload_n hx hb (dk DX11_cell 5 rfl) rfl (lv_at hl 1 rfl) ?_
  refine lv_sipush (v := (3575 : Int32)) hx hb (dk DX11_cell 6 rfl) (by decide) ?_
  refine lv_imul hx hb (dk DX11_cell 7 rfl) ?_
  refine lv_iadd hx hb (dk DX11_cell 8 rfl) ?_
  refine lv_topi (fun x1 ex1 => ?_)
  have hF := lt_at ex1 hF
  refine lv_iload_n hx hb (dk DX11_cell 9 rfl) rfl (lv_at hl 2 rfl) ?_
  refine lv_sipush (v := (325 : Int32)) hx hb (dk DX11_cell 10 rfl) (by decide) ?_
  refine lv_imul hx hb (dk DX11_cell 11 rfl) ?_
  refine lv_iadd hx hb (dk DX11_cell 12 rfl) ?_
  refine lv_iload_n hx hb (dk DX11_cell 13 rfl) rfl (lv_at hl 3 rfl) ?_
  refine lv_iadd hx hb (dk DX11_cell 14 rfl) ?_
  refine lv_sipush (v := (162 : Int32)) hx hb (dk DX11_cell 15 rfl) (by decide) ?_
  refine lv_iadd hx hb (dk DX11_cell 16 rfl) ?_
  refine lv_topi (fun x2 ex2 => ?_)
  have hF := lt_at ex2 hF
  cases hF
  exact r_iret (v := x2) C hrt hR (dk DX11_cell 17 rfl)
set_option maxHeartbeats 4000000 in
set_option maxRecDepth 100000 in
theorem C_M_all (l : Launch) (hl0 : l.stackTraces = false) (G : GG) (a1 : Int32) (m0 : Mem) (v : Int32) (m' : Mem) (hF : F_M_all a1 m0 = some (v, m')) : Ct l G mr0 N0 yX11_all cX11_all 2 (some .int) 2 [.ref (G.2.1 + 78), .int a1] m0 (some (.int v)) m' := by
  refine Ct_of hl0 (by decide) (Nat.le_of_ble_eq_true rfl) ?_
  intro p e s mid args below meth c ls C hrt hl hR
  have hx := C.1.1
  have hb := C.1.2.1
  have hl : lv_has ls 2 [(0, .ref (G.2.1 + 78)), (1, .int a1)] := hl
  unfold F_M_all at hF
  refine lv_iconst (v := (1 : Int32)) hx hb (dk DX11_all 0 rfl) (by decide) ?_
  refine lv_iconst (v := (2 : Int32)) hx hb (dk DX11_all 1 rfl) (by decide) ?_
  refine lv_aload_n hx hb (dk DX11_all 2 rfl) rfl (lv_at hl 0 rfl) ?_
  obtain ⟨x3, m1, hz2, hF⟩ := bnd_ex hF
  refine r_callVi (As := []) (rest := [.int (2 : Int32), .int (1 : Int32)]) C hR (C_M_size l hl0 G m0 _ _ hz2) (by decide) (by decide) ob78 rfl wX11_63 rfl rfl (Nat.le_of_ble_eq_true rfl) hl.1 ⟨Nat.zero_le _, Nat.zero_le _⟩ (dk DX11_all 3 rfl) (fun H locs hR => ?_)
  refine lv_iload_n hx hb (dk DX11_all 4 rfl) rfl (lv_at hl 1 rfl) ?_
  refine lv_isub hx hb (dk DX11_all 5 rfl) ?_
  refine lv_imul hx hb (dk DX11_all 6 rfl) ?_
  refine lv_ishl hx hb (dk DX11_all 7 rfl) ?_
  refine lv_topi (fun x4 ex4 => ?_)
  have hF := lt_at ex4 hF
  cases hF
  exact r_iret (v := x4) C hrt hR (dk DX11_all 8 rfl)
set_option maxHeartbeats 4000000 in
set_option maxRecDepth 100000 in
theorem C_M_brings (l : Launch) (hl0 : l.stackTraces = false) (G : GG) (a1 : Int32) (a2 : Int32) (a3 : Int32) (a4 : Int32) (a5 : Int32) (a6 : Bool) (m0 : Mem) (v : Unit) (m' : Mem) (hF : F_M_brings a1 a2 a3 a4 a5 a6 m0 = some (v, m')) : Ct l G mr0 N0 yX11_brings cX11_brings 9 none 4 [.ref (G.2.1 + 78), .int a1, .int a2, .int a3, .int a4, .int a5, .int (b2i a6)] m0 none m' := by
  refine Ct_of hl0 (by decide) (Nat.le_of_ble_eq_true rfl) ?_
  intro p e s mid args below meth c ls C hrt hl hR
  have hx := C.1.1
  have hb := C.1.2.1
  have hl : lv_has ls 9 [(0, .ref (G.2.1 + 78)), (1, .int a1), (2, .int a2), (3, .int a3), (4, .int a4), (5, .int a5), (6, .int (b2i a6))] := hl
  unfold F_M_brings at hF
  refine lv_iload hx hb (dk DX11_brings 0 rfl) (lv_at hl 4 rfl) ?_
  refine lv_aload_n hx hb (dk DX11_brings 1 rfl) rfl (lv_at hl 0 rfl) ?_
  refine lv_iload_n hx hb (dk DX11_brings 2 rfl) rfl (lv_at hl 1 rfl) ?_
  refine lv_iload_n hx hb (dk DX11_brings 3 rfl) rfl (lv_at hl 2 rfl) ?_
  refine lv_iload hx hb (dk DX11_brings 4 rfl) (lv_at hl 5 rfl) ?_
  refine lv_iload hx hb (dk DX11_brings 5 rfl) (lv_at hl 6 rfl) ?_
  obtain ⟨x3, m1, hz2, hF⟩ := bnd_ex hF
  refine r_callVi (As := [.int a1, .int a2, .int a5, .int (b2i a6)]) (rest := [.int a4]) C hR (C_M_runsOf l hl0 G a1 a2 a5 a6 m0 _ _ hz2) (by decide) (by decide) ob78 rfl wX11_350 rfl rfl (Nat.le_of_ble_eq_true rfl) hl.1 ⟨Nat.zero_le _, Nat.zero_le _⟩ (dk DX11_brings 6 rfl) (fun H locs hR => ?_)
  refine lv_iadd hx hb (dk DX11_brings 7 rfl) ?_
  refine lv_topi (fun x4 ex4 => ?_)
  have hF := lt_at ex4 hF
  refine lv_istore (lv' := [(7, .int x4), (0, .ref (G.2.1 + 78)), (1, .int a1), (2, .int a2), (3, .int a3), (4, .int a4), (5, .int a5), (6, .int (b2i a6))]) hx hb (dk DX11_brings 8 rfl) hl (by decide) rfl (fun ls hl => ?_)
  refine lv_iload_n hx hb (dk DX11_brings 9 rfl) rfl (lv_at hl 4 rfl) ?_
  refine lv_bipush (v := (10 : Int32)) hx hb (dk DX11_brings 10 rfl) (by decide) ?_
  obtain ⟨k26_6, ek26_6, hF⟩ := lt_ex hF
  have J26 : ∀ (x6 : Int32) (m5 : Mem) (H : Heap) (locs : List Loc) (ls : Array Slot), lv_has ls 9 [(0, .ref (G.2.1 + 78)), (1, .int a1), (2, .int a2), (5, .int a5), (6, .int (b2i a6)), (7, .int x4)] → Rp G mr0 N0 m5 s H locs → k26_6 x6 m5 = some (v, m') → W p l e (rmD 4) s mid args below meth c H locs 0 0 (MQ below (QR G mr0 N0 none m') args s 0 0 (fun q => G.2.1 ≤ q)) (F0 mid 26 ls [.int x6]) := by
    intro x6 m5 H locs ls hl hR hF
    rw [ek26_6] at hF
    refine lv_aload_n hx hb (dk DX11_brings 15 rfl) rfl (lv_at hl 0 rfl) ?_
    refine lv_iload_n hx hb (dk DX11_brings 16 rfl) rfl (lv_at hl 1 rfl) ?_
    refine lv_iload_n hx hb (dk DX11_brings 17 rfl) rfl (lv_at hl 2 rfl) ?_
    refine lv_iload hx hb (dk DX11_brings 18 rfl) (lv_at hl 3 rfl) ?_
    refine lv_iload hx hb (dk DX11_brings 19 rfl) (lv_at hl 4 rfl) ?_
    obtain ⟨x9, m7, hz8, hF⟩ := bnd_ex hF
    refine r_callVi (As := [.int a1, .int a2, .int a5, .int (b2i a6)]) (rest := [.int x6]) C hR (C_M_outsOf l hl0 G a1 a2 a5 a6 m5 _ _ hz8) (by decide) (by decide) ob78 rfl wX11_354 rfl rfl (Nat.le_of_ble_eq_true rfl) hl.1 ⟨Nat.zero_le _, Nat.zero_le _⟩ (dk DX11_brings 20 rfl) (fun H locs hR => ?_)
    refine lv_iadd hx hb (dk DX11_brings 21 rfl) ?_
    refine lv_topi (fun x10 ex10 => ?_)
    have hF := lt_at ex10 hF
    refine lv_istore (lv' := [(8, .int x10), (0, .ref (G.2.1 + 78)), (1, .int a1), (2, .int a2), (5, .int a5), (6, .int (b2i a6)), (7, .int x4)]) hx hb (dk DX11_brings 22 rfl) hl (by decide) rfl (fun ls hl => ?_)
    refine lv_iload_n hx hb (dk DX11_brings 23 rfl) rfl (lv_at hl 3 rfl) ?_
    refine lv_iconst (v := (3 : Int32)) hx hb (dk DX11_brings 24 rfl) (by decide) ?_
    obtain ⟨k68_11, ek68_11, hF⟩ := lt_ex hF
    have J68 : ∀ (m11 : Mem) (H : Heap) (locs : List Loc) (ls : Array Slot), lv_has ls 9 [(0, .ref (G.2.1 + 78)), (1, .int a1), (2, .int a2), (7, .int x4), (8, .int x10)] → Rp G mr0 N0 m11 s H locs → k68_11  m11 = some (v, m') → W p l e (rmD 4) s mid args below meth c H locs 0 0 (MQ below (QR G mr0 N0 none m') args s 0 0 (fun q => G.2.1 ≤ q)) (F0 mid 68 ls []) := by
      intro  m11 H locs ls hl hR hF
      rw [ek68_11] at hF
      refine lv_iload hx hb (dk DX11_brings 39 rfl) (lv_at hl 4 rfl) ?_
      refine lv_bipush (v := (10 : Int32)) hx hb (dk DX11_brings 40 rfl) (by decide) ?_
      refine lv_icmp_ge (tgt := 139) hx hb (dk DX11_brings 41 rfl) (by decide) (fun c72 => ?_) (fun c72 => ?_)
      · have hF := if_t c72 hF
        refine lv_iload_n hx hb (dk DX11_brings 80 rfl) rfl (lv_at hl 2 rfl) ?_
        refine lv_iconst (v := (3 : Int32)) hx hb (dk DX11_brings 81 rfl) (by decide) ?_
        refine lv_icmp_le (tgt := 172) hx hb (dk DX11_brings 82 rfl) (by decide) (fun c141 => ?_) (fun c141 => ?_)
        · have hF := if_t c141 hF
          refine lv_iload_n hx hb (dk DX11_brings 98 rfl) rfl (lv_at hl 2 rfl) ?_
          obtain ⟨x14, m12, hz13, hF⟩ := bnd_ex hF
          refine r_callSi (As := [.int a2]) (rest := []) C hR (C_M_nextKind l hl0 G a2 m11 _ _ hz13) (by decide) (by decide) wX11_361 rfl rfl (Nat.le_of_ble_eq_true rfl) hl.1 ⟨Nat.zero_le _, Nat.zero_le _⟩ (dk DX11_brings 99 rfl) (fun H locs hR => ?_)
          refine lv_iconst (v := (3 : Int32)) hx hb (dk DX11_brings 100 rfl) (by decide) ?_
          obtain ⟨k204_15, ek204_15, hF⟩ := lt_ex hF
          have J204 : ∀ (m15 : Mem) (H : Heap) (locs : List Loc) (ls : Array Slot), lv_has ls 9 [(0, .ref (G.2.1 + 78)), (1, .int a1), (2, .int a2), (7, .int x4)] → Rp G mr0 N0 m15 s H locs → k204_15  m15 = some (v, m') → W p l e (rmD 4) s mid args below meth c H locs 0 0 (MQ below (QR G mr0 N0 none m') args s 0 0 (fun q => G.2.1 ≤ q)) (F0 mid 204 ls []) := by
            intro  m15 H locs ls hl hR hF
            rw [ek204_15] at hF
            refine lv_iload_n hx hb (dk DX11_brings 115 rfl) rfl (lv_at hl 1 rfl) ?_
            refine lv_iconst (v := (1 : Int32)) hx hb (dk DX11_brings 116 rfl) (by decide) ?_
            refine lv_iadd hx hb (dk DX11_brings 117 rfl) ?_
            refine lv_aload_n hx hb (dk DX11_brings 118 rfl) rfl (lv_at hl 0 rfl) ?_
            obtain ⟨x18, m16, hz17, hF⟩ := bnd_ex hF
            refine r_callVi (As := []) (rest := [.int (a1 + (1 : Int32))]) C hR (C_M_size l hl0 G m15 _ _ hz17) (by decide) (by decide) ob78 rfl wX11_63 rfl rfl (Nat.le_of_ble_eq_true rfl) hl.1 ⟨Nat.zero_le _, Nat.zero_le _⟩ (dk DX11_brings 119 rfl) (fun H locs hR => ?_)
            refine lv_icmp_ge (tgt := 272) hx hb (dk DX11_brings 120 rfl) (by decide) (fun c211 => ?_) (fun c211 => ?_)
            · have hF := if_t c211 hF
              cases hF
              exact r_vret C hrt hR (dk DX11_brings 155 rfl)
            · have hF := if_f c211 hF
              refine lv_aload_n hx hb (dk DX11_brings 121 rfl) rfl (lv_at hl 0 rfl) ?_
              refine lv_dup hx hb (dk DX11_brings 122 rfl) rfl ?_
              refine gX11_340 C hR ob78 (dk DX11_brings 123 rfl) ?_
              refine lv_aload_n hx hb (dk DX11_brings 124 rfl) rfl (lv_at hl 0 rfl) ?_
              refine gX11_43 C hR ob78 rf78_18 (dk DX11_brings 125 rfl) ?_
              refine lv_iload_n hx hb (dk DX11_brings 126 rfl) rfl (lv_at hl 1 rfl) ?_
              refine lv_iconst (v := (1 : Int32)) hx hb (dk DX11_brings 127 rfl) (by decide) ?_
              refine lv_iadd hx hb (dk DX11_brings 128 rfl) ?_
              refine lv_iload_n hx hb (dk DX11_brings 129 rfl) rfl (lv_at hl 2 rfl) ?_
              obtain ⟨x21, m19, hz20, hF⟩ := bnd_ex hF
              refine r_callSi (As := [.int a2]) (rest := [.int (a1 + (1 : Int32)), .ref (G.2.1 + 87), .int (gI m16 78 23), .ref (G.2.1 + 78)]) C hR (C_M_nextKind l hl0 G a2 m16 _ _ hz20) (by decide) (by decide) wX11_361 rfl rfl (Nat.le_of_ble_eq_true rfl) hl.1 ⟨Nat.zero_le _, Nat.zero_le _⟩ (dk DX11_brings 130 rfl) (fun H locs hR => ?_)
              refine lv_bipush (v := (10 : Int32)) hx hb (dk DX11_brings 131 rfl) (by decide) ?_
              refine lv_iload hx hb (dk DX11_brings 132 rfl) (lv_at hl 3 rfl) ?_
              refine lv_ineg hx hb (dk DX11_brings 133 rfl) ?_
              obtain ⟨x24, m22, hz23, hF⟩ := bnd_ex hF
              refine r_callSi (As := [.int (a1 + (1 : Int32)), .int x21, .int (10 : Int32), .int (-x4)]) (rest := [.ref (G.2.1 + 87), .int (gI m16 78 23), .ref (G.2.1 + 78)]) C hR (C_M_cell l hl0 G (a1 + (1 : Int32)) x21 (10 : Int32) (-x4) m19 _ _ hz23) (by decide) (by decide) wX11_357 rfl rfl (Nat.le_of_ble_eq_true rfl) hl.1 ⟨Nat.zero_le _, Nat.zero_le _⟩ (dk DX11_brings 134 rfl) (fun H locs hR => ?_)
              obtain ⟨h25, hF⟩ := ckB_ex hF
              refine r_iald C hR ob87 h25 (dk DX11_brings 135 rfl) ?_
              refine lv_topi (fun x26 ex26 => ?_)
              have hF := lt_at ex26 hF
              refine lv_iadd hx hb (dk DX11_brings 136 rfl) ?_
              refine pX11_340 (x := (gI m16 78 23) + x26) C hR ob78 (dk DX11_brings 137 rfl) (fun H locs hR => ?_)
              obtain ⟨m27, em27, hF⟩ := lt_ex hF
              have hR := Rp_at em27 hR
              refine lv_aload_n hx hb (dk DX11_brings 138 rfl) rfl (lv_at hl 0 rfl) ?_
              refine lv_dup hx hb (dk DX11_brings 139 rfl) rfl ?_
              refine gX11_343 C hR ob78 (dk DX11_brings 140 rfl) ?_
              refine lv_aload_n hx hb (dk DX11_brings 141 rfl) rfl (lv_at hl 0 rfl) ?_
              refine gX11_40 C hR ob78 rf78_17 (dk DX11_brings 142 rfl) ?_
              refine lv_iload_n hx hb (dk DX11_brings 143 rfl) rfl (lv_at hl 1 rfl) ?_
              refine lv_iconst (v := (1 : Int32)) hx hb (dk DX11_brings 144 rfl) (by decide) ?_
              refine lv_iadd hx hb (dk DX11_brings 145 rfl) ?_
              refine lv_iload_n hx hb (dk DX11_brings 146 rfl) rfl (lv_at hl 2 rfl) ?_
              obtain ⟨x30, m28, hz29, hF⟩ := bnd_ex hF
              refine r_callSi (As := [.int a2]) (rest := [.int (a1 + (1 : Int32)), .ref (G.2.1 + 86), .int (gI m27 78 24), .ref (G.2.1 + 78)]) C hR (C_M_nextKind l hl0 G a2 m27 _ _ hz29) (by decide) (by decide) wX11_361 rfl rfl (Nat.le_of_ble_eq_true rfl) hl.1 ⟨Nat.zero_le _, Nat.zero_le _⟩ (dk DX11_brings 147 rfl) (fun H locs hR => ?_)
              refine lv_bipush (v := (10 : Int32)) hx hb (dk DX11_brings 148 rfl) (by decide) ?_
              refine lv_iload hx hb (dk DX11_brings 149 rfl) (lv_at hl 3 rfl) ?_
              refine lv_ineg hx hb (dk DX11_brings 150 rfl) ?_
              obtain ⟨x33, m31, hz32, hF⟩ := bnd_ex hF
              refine r_callSi (As := [.int (a1 + (1 : Int32)), .int x30, .int (10 : Int32), .int (-x4)]) (rest := [.ref (G.2.1 + 86), .int (gI m27 78 24), .ref (G.2.1 + 78)]) C hR (C_M_cell l hl0 G (a1 + (1 : Int32)) x30 (10 : Int32) (-x4) m28 _ _ hz32) (by decide) (by decide) wX11_357 rfl rfl (Nat.le_of_ble_eq_true rfl) hl.1 ⟨Nat.zero_le _, Nat.zero_le _⟩ (dk DX11_brings 151 rfl) (fun H locs hR => ?_)
              obtain ⟨h34, hF⟩ := ckB_ex hF
              refine r_iald C hR ob86 h34 (dk DX11_brings 152 rfl) ?_
              refine lv_topi (fun x35 ex35 => ?_)
              have hF := lt_at ex35 hF
              refine lv_iadd hx hb (dk DX11_brings 153 rfl) ?_
              refine pX11_343 (x := (gI m27 78 24) + x35) C hR ob78 (dk DX11_brings 154 rfl) (fun H locs hR => ?_)
              obtain ⟨m36, em36, hF⟩ := lt_ex hF
              have hR := Rp_at em36 hR
              cases hF
              exact r_vret C hrt hR (dk DX11_brings 155 rfl)
          refine lv_icmp_le (tgt := 204) hx hb (dk DX11_brings 101 rfl) (by decide) (fun c177 => ?_) (fun c177 => ?_)
          · have hF := if_t c177 hF
            exact J204 m12 _ _ ls (lv_sub hl [0, 1, 2, 3] rfl) hR hF
          · have hF := if_f c177 hF
            refine lv_iload hx hb (dk DX11_brings 102 rfl) (lv_at hl 3 rfl) ?_
            refine lv_if_ge (tgt := 204) hx hb (dk DX11_brings 103 rfl) (by decide) (fun c182 => ?_) (fun c182 => ?_)
            · have hF := if_t c182 hF
              exact J204 m12 _ _ ls (lv_sub hl [0, 1, 2, 3] rfl) hR hF
            · have hF := if_f c182 hF
              refine lv_aload_n hx hb (dk DX11_brings 104 rfl) rfl (lv_at hl 0 rfl) ?_
              refine lv_dup hx hb (dk DX11_brings 105 rfl) rfl ?_
              refine gX11_343 C hR ob78 (dk DX11_brings 106 rfl) ?_
              refine lv_aload_n hx hb (dk DX11_brings 107 rfl) rfl (lv_at hl 0 rfl) ?_
              refine lv_iload_n hx hb (dk DX11_brings 108 rfl) rfl (lv_at hl 1 rfl) ?_
              refine lv_iconst (v := (1 : Int32)) hx hb (dk DX11_brings 109 rfl) (by decide) ?_
              refine lv_iadd hx hb (dk DX11_brings 110 rfl) ?_
              obtain ⟨x39, m37, hz38, hF⟩ := bnd_ex hF
              refine r_callVi (As := [.int (a1 + (1 : Int32))]) (rest := [.int (gI m12 78 24), .ref (G.2.1 + 78)]) C hR (C_M_all l hl0 G (a1 + (1 : Int32)) m12 _ _ hz38) (by decide) (by decide) ob78 rfl wX11_337 rfl rfl (Nat.le_of_ble_eq_true rfl) hl.1 ⟨Nat.zero_le _, Nat.zero_le _⟩ (dk DX11_brings 111 rfl) (fun H locs hR => ?_)
              refine lv_iadd hx hb (dk DX11_brings 112 rfl) ?_
              refine pX11_343 (x := (gI m12 78 24) + x39) C hR ob78 (dk DX11_brings 113 rfl) (fun H locs hR => ?_)
              obtain ⟨m40, em40, hF⟩ := lt_ex hF
              have hR := Rp_at em40 hR
              refine lv_goto (tgt := 272) hx hb (dk DX11_brings 114 rfl) (by decide) ?_
              cases hF
              exact r_vret C hrt hR (dk DX11_brings 155 rfl)
        · have hF := if_f c141 hF
          refine lv_aload_n hx hb (dk DX11_brings 83 rfl) rfl (lv_at hl 0 rfl) ?_
          refine lv_dup hx hb (dk DX11_brings 84 rfl) rfl ?_
          refine gX11_343 C hR ob78 (dk DX11_brings 85 rfl) ?_
          refine lv_iload hx hb (dk DX11_brings 86 rfl) (lv_at hl 3 rfl) ?_
          obtain ⟨k165_42, ek165_42, hF⟩ := lt_ex hF
          have J165 : ∀ (x42 : Int32) (m41 : Mem) (H : Heap) (locs : List Loc) (ls : Array Slot), lv_has ls 9 [] → Rp G mr0 N0 m41 s H locs → k165_42 x42 m41 = some (v, m') → W p l e (rmD 4) s mid args below meth c H locs 0 0 (MQ below (QR G mr0 N0 none m') args s 0 0 (fun q => G.2.1 ≤ q)) (F0 mid 165 ls [.int x42, .int (gI m11 78 24), .ref (G.2.1 + 78)]) := by
            intro x42 m41 H locs ls hl hR hF
            rw [ek165_42] at hF
            refine lv_iadd hx hb (dk DX11_brings 95 rfl) ?_
            refine pX11_343 (x := (gI m11 78 24) + x42) C hR ob78 (dk DX11_brings 96 rfl) (fun H locs hR => ?_)
            obtain ⟨m43, em43, hF⟩ := lt_ex hF
            have hR := Rp_at em43 hR
            refine lv_goto (tgt := 272) hx hb (dk DX11_brings 97 rfl) (by decide) ?_
            cases hF
            exact r_vret C hrt hR (dk DX11_brings 155 rfl)
          refine lv_if_ge (tgt := 164) hx hb (dk DX11_brings 87 rfl) (by decide) (fun c151 => ?_) (fun c151 => ?_)
          · have hF := if_t c151 hF
            refine lv_iconst (v := (0 : Int32)) hx hb (dk DX11_brings 94 rfl) (by decide) ?_
            exact J165 (0 : Int32) m11 _ _ ls (lv_sub hl [] rfl) hR hF
          · have hF := if_f c151 hF
            refine lv_aload_n hx hb (dk DX11_brings 88 rfl) rfl (lv_at hl 0 rfl) ?_
            refine lv_iload_n hx hb (dk DX11_brings 89 rfl) rfl (lv_at hl 1 rfl) ?_
            refine lv_iconst (v := (1 : Int32)) hx hb (dk DX11_brings 90 rfl) (by decide) ?_
            refine lv_iadd hx hb (dk DX11_brings 91 rfl) ?_
            obtain ⟨x46, m44, hz45, hF⟩ := bnd_ex hF
            refine r_callVi (As := [.int (a1 + (1 : Int32))]) (rest := [.int (gI m11 78 24), .ref (G.2.1 + 78)]) C hR (C_M_all l hl0 G (a1 + (1 : Int32)) m11 _ _ hz45) (by decide) (by decide) ob78 rfl wX11_337 rfl rfl (Nat.le_of_ble_eq_true rfl) hl.1 ⟨Nat.zero_le _, Nat.zero_le _⟩ (dk DX11_brings 92 rfl) (fun H locs hR => ?_)
            refine lv_goto (tgt := 165) hx hb (dk DX11_brings 93 rfl) (by decide) ?_
            exact J165 x46 m44 _ _ ls (lv_sub hl [] rfl) hR hF
      · have hF := if_f c72 hF
        refine lv_iload_n hx hb (dk DX11_brings 42 rfl) rfl (lv_at hl 1 rfl) ?_
        refine lv_iconst (v := (1 : Int32)) hx hb (dk DX11_brings 43 rfl) (by decide) ?_
        refine lv_iadd hx hb (dk DX11_brings 44 rfl) ?_
        refine lv_aload_n hx hb (dk DX11_brings 45 rfl) rfl (lv_at hl 0 rfl) ?_
        obtain ⟨x49, m47, hz48, hF⟩ := bnd_ex hF
        refine r_callVi (As := []) (rest := [.int (a1 + (1 : Int32))]) C hR (C_M_size l hl0 G m11 _ _ hz48) (by decide) (by decide) ob78 rfl wX11_63 rfl rfl (Nat.le_of_ble_eq_true rfl) hl.1 ⟨Nat.zero_le _, Nat.zero_le _⟩ (dk DX11_brings 46 rfl) (fun H locs hR => ?_)
        refine lv_icmp_ne (tgt := 86) hx hb (dk DX11_brings 47 rfl) (by decide) (fun c82 => ?_) (fun c82 => ?_)
        · have hF := if_f c82 hF
          refine lv_aload_n hx hb (dk DX11_brings 49 rfl) rfl (lv_at hl 0 rfl) ?_
          refine lv_dup hx hb (dk DX11_brings 50 rfl) rfl ?_
          refine gX11_340 C hR ob78 (dk DX11_brings 51 rfl) ?_
          refine lv_aload_n hx hb (dk DX11_brings 52 rfl) rfl (lv_at hl 0 rfl) ?_
          refine gX11_40 C hR ob78 rf78_17 (dk DX11_brings 53 rfl) ?_
          refine lv_iload_n hx hb (dk DX11_brings 54 rfl) rfl (lv_at hl 1 rfl) ?_
          refine lv_iconst (v := (1 : Int32)) hx hb (dk DX11_brings 55 rfl) (by decide) ?_
          refine lv_iadd hx hb (dk DX11_brings 56 rfl) ?_
          refine lv_iload_n hx hb (dk DX11_brings 57 rfl) rfl (lv_at hl 2 rfl) ?_
          refine lv_iload hx hb (dk DX11_brings 58 rfl) (lv_at hl 4 rfl) ?_
          refine lv_iload hx hb (dk DX11_brings 59 rfl) (lv_at hl 3 rfl) ?_
          obtain ⟨x52, m50, hz51, hF⟩ := bnd_ex hF
          refine r_callSi (As := [.int (a1 + (1 : Int32)), .int a2, .int x10, .int x4]) (rest := [.ref (G.2.1 + 86), .int (gI m47 78 23), .ref (G.2.1 + 78)]) C hR (C_M_cell l hl0 G (a1 + (1 : Int32)) a2 x10 x4 m47 _ _ hz51) (by decide) (by decide) wX11_357 rfl rfl (Nat.le_of_ble_eq_true rfl) hl.1 ⟨Nat.zero_le _, Nat.zero_le _⟩ (dk DX11_brings 60 rfl) (fun H locs hR => ?_)
          obtain ⟨h53, hF⟩ := ckB_ex hF
          refine r_iald C hR ob86 h53 (dk DX11_brings 61 rfl) ?_
          refine lv_topi (fun x54 ex54 => ?_)
          have hF := lt_at ex54 hF
          refine lv_iadd hx hb (dk DX11_brings 62 rfl) ?_
          refine pX11_340 (x := (gI m47 78 23) + x54) C hR ob78 (dk DX11_brings 63 rfl) (fun H locs hR => ?_)
          obtain ⟨m55, em55, hF⟩ := lt_ex hF
          have hR := Rp_at em55 hR
          refine lv_aload_n hx hb (dk DX11_brings 64 rfl) rfl (lv_at hl 0 rfl) ?_
          refine lv_dup hx hb (dk DX11_brings 65 rfl) rfl ?_
          refine gX11_343 C hR ob78 (dk DX11_brings 66 rfl) ?_
          refine lv_aload_n hx hb (dk DX11_brings 67 rfl) rfl (lv_at hl 0 rfl) ?_
          refine gX11_43 C hR ob78 rf78_18 (dk DX11_brings 68 rfl) ?_
          refine lv_iload_n hx hb (dk DX11_brings 69 rfl) rfl (lv_at hl 1 rfl) ?_
          refine lv_iconst (v := (1 : Int32)) hx hb (dk DX11_brings 70 rfl) (by decide) ?_
          refine lv_iadd hx hb (dk DX11_brings 71 rfl) ?_
          refine lv_iload_n hx hb (dk DX11_brings 72 rfl) rfl (lv_at hl 2 rfl) ?_
          refine lv_iload hx hb (dk DX11_brings 73 rfl) (lv_at hl 4 rfl) ?_
          refine lv_iload hx hb (dk DX11_brings 74 rfl) (lv_at hl 3 rfl) ?_
          obtain ⟨x58, m56, hz57, hF⟩ := bnd_ex hF
          refine r_callSi (As := [.int (a1 + (1 : Int32)), .int a2, .int x10, .int x4]) (rest := [.ref (G.2.1 + 87), .int (gI m55 78 24), .ref (G.2.1 + 78)]) C hR (C_M_cell l hl0 G (a1 + (1 : Int32)) a2 x10 x4 m55 _ _ hz57) (by decide) (by decide) wX11_357 rfl rfl (Nat.le_of_ble_eq_true rfl) hl.1 ⟨Nat.zero_le _, Nat.zero_le _⟩ (dk DX11_brings 75 rfl) (fun H locs hR => ?_)
          obtain ⟨h59, hF⟩ := ckB_ex hF
          refine r_iald C hR ob87 h59 (dk DX11_brings 76 rfl) ?_
          refine lv_topi (fun x60 ex60 => ?_)
          have hF := lt_at ex60 hF
          refine lv_iadd hx hb (dk DX11_brings 77 rfl) ?_
          refine pX11_343 (x := (gI m55 78 24) + x60) C hR ob78 (dk DX11_brings 78 rfl) (fun H locs hR => ?_)
          obtain ⟨m61, em61, hF⟩ := lt_ex hF
          have hR := Rp_at em61 hR
          refine lv_goto (tgt := 272) hx hb (dk DX11_brings 79 rfl) (by decide) ?_
          cases hF
          exact r_vret C hrt hR (dk DX11_brings 155 rfl)
        · have hF := if_t c82 hF
          cases hF
          exact r_vret C hrt hR (dk DX11_brings 48 rfl)
    refine lv_icmp_le (tgt := 68) hx hb (dk DX11_brings 25 rfl) (by decide) (fun c41 => ?_) (fun c41 => ?_)
    · have hF := if_t c41 hF
      exact J68 m7 _ _ ls (lv_sub hl [1, 2, 3, 6, 0] rfl) hR hF
    · have hF := if_f c41 hF
      refine lv_iload hx hb (dk DX11_brings 26 rfl) (lv_at hl 6 rfl) ?_
      refine lv_if_le (tgt := 68) hx hb (dk DX11_brings 27 rfl) (by decide) (fun c46 => ?_) (fun c46 => ?_)
      · have hF := if_t c46 hF
        exact J68 m7 _ _ ls (lv_sub hl [1, 2, 3, 6, 0] rfl) hR hF
      · have hF := if_f c46 hF
        refine lv_aload_n hx hb (dk DX11_brings 28 rfl) rfl (lv_at hl 1 rfl) ?_
        refine lv_dup hx hb (dk DX11_brings 29 rfl) rfl ?_
        refine gX11_340 C hR ob78 (dk DX11_brings 30 rfl) ?_
        refine lv_aload_n hx hb (dk DX11_brings 31 rfl) rfl (lv_at hl 1 rfl) ?_
        refine lv_iload_n hx hb (dk DX11_brings 32 rfl) rfl (lv_at hl 2 rfl) ?_
        refine lv_iconst (v := (1 : Int32)) hx hb (dk DX11_brings 33 rfl) (by decide) ?_
        refine lv_iadd hx hb (dk DX11_brings 34 rfl) ?_
        obtain ⟨x64, m62, hz63, hF⟩ := bnd_ex hF
        refine r_callVi (As := [.int (a1 + (1 : Int32))]) (rest := [.int (gI m7 78 23), .ref (G.2.1 + 78)]) C hR (C_M_all l hl0 G (a1 + (1 : Int32)) m7 _ _ hz63) (by decide) (by decide) ob78 rfl wX11_337 rfl rfl (Nat.le_of_ble_eq_true rfl) hl.1 ⟨Nat.zero_le _, Nat.zero_le _⟩ (dk DX11_brings 35 rfl) (fun H locs hR => ?_)
        refine lv_iadd hx hb (dk DX11_brings 36 rfl) ?_
        refine pX11_340 (x := (gI m7 78 23) + x64) C hR ob78 (dk DX11_brings 37 rfl) (fun H locs hR => ?_)
        obtain ⟨m65, em65, hF⟩ := lt_ex hF
        have hR := Rp_at em65 hR
        refine lv_goto (tgt := 272) hx hb (dk DX11_brings 38 rfl) (by decide) ?_
        cases hF
        exact r_vret C hrt hR (dk DX11_brings 155 rfl)
  refine lv_icmp_ne (tgt := 25) hx hb (dk DX11_brings 11 rfl) (by decide) (fun c18 => ?_) (fun c18 => ?_)
  · have hF := if_f c18 hF
    refine lv_iload_n hx hb (dk DX11_brings 14 rfl) rfl (lv_at hl 4 rfl) ?_
    exact J26 a3 m1 _ _ ls (lv_sub hl [1, 2, 3, 6, 7, 0] rfl) hR hF
  · have hF := if_t c18 hF
    refine lv_iconst (v := (0 : Int32)) hx hb (dk DX11_brings 12 rfl) (by decide) ?_
    refine lv_goto (tgt := 26) hx hb (dk DX11_brings 13 rfl) (by decide) ?_
    exact J26 (0 : Int32) m1 _ _ ls (lv_sub hl [1, 2, 3, 6, 7, 0] rfl) hR hF
set_option maxHeartbeats 4000000 in
set_option maxRecDepth 100000 in
theorem C_M_goesOn (l : Launch) (hl0 : l.stackTraces = false) (G : GG) (a1 : Int32) (a2 : Int32) (a3 : Int32) (a4 : Int32) (a5 : Bool) (m0 : Mem) (v : Unit) (m' : Mem) (hF : F_M_goesOn a1 a2 a3 a4 a5 m0 = some (v, m')) : Ct l G mr0 N0 yX11_goesOn cX11_goesOn 7 none 5 [.ref (G.2.1 + 78), .int a1, .int a2, .int a3, .int a4, .int (b2i a5)] m0 none m' := by
  refine Ct_of hl0 (by decide) (Nat.le_of_ble_eq_true rfl) ?_
  intro p e s mid args below meth c ls C hrt hl hR
  have hx := C.1.1
  have hb := C.1.2.1
  have hl : lv_has ls 7 [(0, .ref (G.2.1 + 78)), (1, .int a1), (2, .int a2), (3, .int a3), (4, .int a4), (5, .int (b2i a5))] := hl
  unfold F_M_goesOn at hF
  refine lv_aload_n hx hb (dk DX11_goesOn 0 rfl) rfl (lv_at hl 0 rfl) ?_
  refine lv_iconst (v := (0 : Int32)) hx hb (dk DX11_goesOn 1 rfl) (by decide) ?_
  refine pX11_340 (x := (0 : Int32)) C hR ob78 (dk DX11_goesOn 2 rfl) (fun H locs hR => ?_)
  obtain ⟨m1, em1, hF⟩ := lt_ex hF
  have hR := Rp_at em1 hR
  refine lv_aload_n hx hb (dk DX11_goesOn 3 rfl) rfl (lv_at hl 0 rfl) ?_
  refine lv_iconst (v := (0 : Int32)) hx hb (dk DX11_goesOn 4 rfl) (by decide) ?_
  refine pX11_343 (x := (0 : Int32)) C hR ob78 (dk DX11_goesOn 5 rfl) (fun H locs hR => ?_)
  obtain ⟨m2, em2, hF⟩ := lt_ex hF
  have hR := Rp_at em2 hR
  refine lv_iconst (v := (0 : Int32)) hx hb (dk DX11_goesOn 6 rfl) (by decide) ?_
  refine lv_istore (lv' := [(6, .int (0 : Int32)), (0, .ref (G.2.1 + 78)), (1, .int a1), (2, .int a2), (3, .int a3), (4, .int a4), (5, .int (b2i a5))]) hx hb (dk DX11_goesOn 7 rfl) hl (by decide) rfl (fun ls hl => ?_)
  have L13 : ∀ (nf : Nat) (x4 : Int32) (m3 : Mem) (H : Heap) (locs : List Loc) (ls : Array Slot), lv_has ls 7 [(0, .ref (G.2.1 + 78)), (1, .int a1), (2, .int a2), (3, .int a3), (4, .int a4), (5, .int (b2i a5)), (6, .int x4)] → Rp G mr0 N0 m3 s H locs → F_M_goesOn_L13 a1 a2 a3 a4 a5 nf x4 m3 = some (v, m') → W p l e (rmD 5) s mid args below meth c H locs 0 0 (MQ below (QR G mr0 N0 none m') args s 0 0 (fun q => G.2.1 ≤ q)) (F0 mid 13 ls []) := by
    intro nf
    induction nf with
    | zero =>
      intro x4 m3 H locs ls hl hR hF
      rw [F_M_goesOn_L13] at hF
      cases hF
    | succ nf ih6 =>
      intro x4 m3 H locs ls hl hR hF
      rw [F_M_goesOn_L13] at hF
      refine lv_iload hx hb (dk DX11_goesOn 8 rfl) (lv_at hl 6 rfl) ?_
      refine lv_iconst (v := (4 : Int32)) hx hb (dk DX11_goesOn 9 rfl) (by decide) ?_
      refine lv_icmp_ge (tgt := 38) hx hb (dk DX11_goesOn 10 rfl) (by decide) (fun c16 => ?_) (fun c16 => ?_)
      · have hF := if_t c16 hF
        cases hF
        exact r_vret C hrt hR (dk DX11_goesOn 21 rfl)
      · have hF := if_f c16 hF
        refine lv_aload_n hx hb (dk DX11_goesOn 11 rfl) rfl (lv_at hl 0 rfl) ?_
        refine lv_iload_n hx hb (dk DX11_goesOn 12 rfl) rfl (lv_at hl 1 rfl) ?_
        refine lv_iload_n hx hb (dk DX11_goesOn 13 rfl) rfl (lv_at hl 2 rfl) ?_
        refine lv_iload_n hx hb (dk DX11_goesOn 14 rfl) rfl (lv_at hl 3 rfl) ?_
        refine lv_iload hx hb (dk DX11_goesOn 15 rfl) (lv_at hl 4 rfl) ?_
        refine lv_iload hx hb (dk DX11_goesOn 16 rfl) (lv_at hl 6 rfl) ?_
        refine lv_iload hx hb (dk DX11_goesOn 17 rfl) (lv_at hl 5 rfl) ?_
        obtain ⟨u9, m7, hz8, hF⟩ := bnd_ex hF
        refine r_callVv (As := [.int a1, .int a2, .int a3, .int a4, .int x4, .int (b2i a5)]) (rest := []) C hR (C_M_brings l hl0 G a1 a2 a3 a4 x4 a5 m3 _ _ hz8) (by decide) (by decide) ob78 rfl wX11_364 rfl rfl (Nat.le_of_ble_eq_true rfl) hl.1 ⟨Nat.zero_le _, Nat.zero_le _⟩ (dk DX11_goesOn 18 rfl) (fun H locs hR => ?_)
        obtain ⟨x10, ex10, hF⟩ := lt_ex hF
        refine lv_iinc (v := x10) (lv' := [(6, .int x10), (0, .ref (G.2.1 + 78)), (1, .int a1), (2, .int a2), (3, .int a3), (4, .int a4), (5, .int (b2i a5))]) hx hb (dk DX11_goesOn 19 rfl) hl (k := 6) rfl (by rw [ex10]; rfl) (by decide) rfl (fun ls hl => ?_)
        refine lv_goto (tgt := 13) hx hb (dk DX11_goesOn 20 rfl) (by decide) ?_
        exact ih6 x10 m7 _ _ ls (lv_sub hl [1, 2, 3, 4, 5, 6, 0] rfl) hR hF
  exact L13 1000000 (0 : Int32) m2 _ _ ls (lv_sub hl [1, 2, 3, 4, 5, 6, 0] rfl) hR hF
set_option maxHeartbeats 4000000 in
set_option maxRecDepth 100000 in
theorem C_M_worthOf (l : Launch) (hl0 : l.stackTraces = false) (G : GG) (a1 : Int32) (a2 : Int32) (a3 : Int32) (m0 : Mem) (v : Int64) (m' : Mem) (hF : F_M_worthOf a1 a2 a3 m0 = some (v, m')) : Ct l G mr0 N0 yX11_worthOf cX11_worthOf 4 (some .long) 3 [.ref (G.2.1 + 78), .int a1, .int a2, .int a3] m0 (some (.long v)) m' := by
  refine Ct_of hl0 (by decide) (Nat.le_of_ble_eq_true rfl) ?_
  intro p e s mid args below meth c ls C hrt hl hR
  have hx := C.1.1
  have hb := C.1.2.1
  have hl : lv_has ls 4 [(0, .ref (G.2.1 + 78)), (1, .int a1), (2, .int a2), (3, .int a3)] := hl
  unfold F_M_worthOf at hF
  refine lv_ldc2 (v := (100 : Int64)) hx hb C.1.2.2.2.1 (C.1.2.2.2.2 _ (gd q2113 rfl)) (dk DX11_worthOf 0 rfl) ?_
  refine lv_iload_n hx hb (dk DX11_worthOf 1 rfl) rfl (lv_at hl 2 rfl) ?_
  refine lv_i2l hx hb (dk DX11_worthOf 2 rfl) rfl ?_
  refine lv_lmul hx hb (dk DX11_worthOf 3 rfl) ?_
  refine lv_aload_n hx hb (dk DX11_worthOf 4 rfl) rfl (lv_at hl 0 rfl) ?_
  refine gX11_334 C hR ob78 (dk DX11_worthOf 5 rfl) ?_
  refine lv_i2l hx hb (dk DX11_worthOf 6 rfl) rfl ?_
  refine lv_aload_n hx hb (dk DX11_worthOf 7 rfl) rfl (lv_at hl 0 rfl) ?_
  refine lv_iload_n hx hb (dk DX11_worthOf 8 rfl) rfl (lv_at hl 1 rfl) ?_
  obtain ⟨x3, m1, hz2, hF⟩ := bnd_ex hF
  refine r_callVi (As := [.int a1]) (rest := [.long ((gI m0 78 21).toInt64), .long ((100 : Int64) * a2.toInt64)]) C hR (C_M_all l hl0 G a1 m0 _ _ hz2) (by decide) (by decide) ob78 rfl wX11_337 rfl rfl (Nat.le_of_ble_eq_true rfl) hl.1 ⟨Nat.zero_le _, Nat.zero_le _⟩ (dk DX11_worthOf 9 rfl) (fun H locs hR => ?_)
  refine lv_iload_n hx hb (dk DX11_worthOf 10 rfl) rfl (lv_at hl 2 rfl) ?_
  refine lv_isub hx hb (dk DX11_worthOf 11 rfl) ?_
  refine lv_iload_n hx hb (dk DX11_worthOf 12 rfl) rfl (lv_at hl 3 rfl) ?_
  refine lv_isub hx hb (dk DX11_worthOf 13 rfl) ?_
  refine lv_i2l hx hb (dk DX11_worthOf 14 rfl) rfl ?_
  refine lv_lmul hx hb (dk DX11_worthOf 15 rfl) ?_
  refine lv_topl (fun y4 ey4 => ?_)
  have hF := lt_at ey4 hF
  refine lv_ladd hx hb (dk DX11_worthOf 16 rfl) ?_
  cases hF
  exact r_lret (v := ((100 : Int64) * a2.toInt64) + y4) C hrt hR (dk DX11_worthOf 17 rfl)
set_option maxHeartbeats 4000000 in
set_option maxRecDepth 100000 in
theorem C_M_got (l : Launch) (hl0 : l.stackTraces = false) (G : GG) (a1 : Int32) (m0 : Mem) (v : Int64) (m' : Mem) (hF : F_M_got a1 m0 = some (v, m')) : Ct l G mr0 N0 yX11_got cX11_got 2 (some .long) 4 [.ref (G.2.1 + 78), .int a1] m0 (some (.long v)) m' := by
  refine Ct_of hl0 (by decide) (Nat.le_of_ble_eq_true rfl) ?_
  intro p e s mid args below meth c ls C hrt hl hR
  have hx := C.1.1
  have hb := C.1.2.1
  have hl : lv_has ls 2 [(0, .ref (G.2.1 + 78)), (1, .int a1)] := hl
  unfold F_M_got at hF
  refine lv_aload_n hx hb (dk DX11_got 0 rfl) rfl (lv_at hl 0 rfl) ?_
  refine lv_iload_n hx hb (dk DX11_got 1 rfl) rfl (lv_at hl 1 rfl) ?_
  refine lv_aload_n hx hb (dk DX11_got 2 rfl) rfl (lv_at hl 0 rfl) ?_
  refine gX11_340 C hR ob78 (dk DX11_got 3 rfl) ?_
  refine lv_aload_n hx hb (dk DX11_got 4 rfl) rfl (lv_at hl 0 rfl) ?_
  refine gX11_343 C hR ob78 (dk DX11_got 5 rfl) ?_
  obtain ⟨y3, m1, hz2, hF⟩ := bnd_ex hF
  refine r_callVl (As := [.int a1, .int (gI m0 78 23), .int (gI m0 78 24)]) (rest := []) C hR (C_M_worthOf l hl0 G a1 (gI m0 78 23) (gI m0 78 24) m0 _ _ hz2) (by decide) (by decide) ob78 rfl wX11_346 rfl rfl (Nat.le_of_ble_eq_true rfl) hl.1 ⟨Nat.zero_le _, Nat.zero_le _⟩ (dk DX11_got 6 rfl) (fun H locs hR => ?_)
  cases hF
  exact r_lret (v := y3) C hrt hR (dk DX11_got 7 rfl)
set_option maxHeartbeats 4000000 in
set_option maxRecDepth 100000 in
theorem C_M_mayDeclare (l : Launch) (hl0 : l.stackTraces = false) (G : GG) (a1 : Int32) (a2 : Int32) (m0 : Mem) (v : Bool) (m' : Mem) (hF : F_M_mayDeclare a1 a2 m0 = some (v, m')) : Ct l G mr0 N0 yX11_mayDeclare cX11_mayDeclare 3 (some .boolean) 1 [.ref (G.2.1 + 78), .int a1, .int a2] m0 (some (.int (b2i v))) m' := by
  refine Ct_of hl0 (by decide) (Nat.le_of_ble_eq_true rfl) ?_
  intro p e s mid args below meth c ls C hrt hl hR
  have hx := C.1.1
  have hb := C.1.2.1
  have hl : lv_has ls 3 [(0, .ref (G.2.1 + 78)), (1, .int a1), (2, .int a2)] := hl
  unfold F_M_mayDeclare at hF
  refine lv_iload_n hx hb (dk DX11_mayDeclare 0 rfl) rfl (lv_at hl 1 rfl) ?_
  refine lv_iconst (v := (4 : Int32)) hx hb (dk DX11_mayDeclare 1 rfl) (by decide) ?_
  refine lv_icmp_ge (tgt := 15) hx hb (dk DX11_mayDeclare 2 rfl) (by decide) (fun c2 => ?_) (fun c2 => ?_)
  · have hF := if_t c2 hF
    refine lv_iconst (v := (0 : Int32)) hx hb (dk DX11_mayDeclare 8 rfl) (by decide) ?_
    cases hF
    exact r_zret (v := false) C hrt hR (dk DX11_mayDeclare 9 rfl)
  · have hF := if_f c2 hF
    refine lv_iload_n hx hb (dk DX11_mayDeclare 3 rfl) rfl (lv_at hl 2 rfl) ?_
    refine lv_bipush (v := (10 : Int32)) hx hb (dk DX11_mayDeclare 4 rfl) (by decide) ?_
    refine lv_icmp_eq (tgt := 15) hx hb (dk DX11_mayDeclare 5 rfl) (by decide) (fun c8 => ?_) (fun c8 => ?_)
    · have hF := if_t c8 hF
      refine lv_iconst (v := (0 : Int32)) hx hb (dk DX11_mayDeclare 8 rfl) (by decide) ?_
      cases hF
      exact r_zret (v := false) C hrt hR (dk DX11_mayDeclare 9 rfl)
    · have hF := if_f c8 hF
      refine lv_iconst (v := (1 : Int32)) hx hb (dk DX11_mayDeclare 6 rfl) (by decide) ?_
      refine lv_goto (tgt := 16) hx hb (dk DX11_mayDeclare 7 rfl) (by decide) ?_
      cases hF
      exact r_zret (v := true) C hrt hR (dk DX11_mayDeclare 9 rfl)
set_option maxHeartbeats 4000000 in
set_option maxRecDepth 100000 in
theorem C_M_mayFollow (l : Launch) (hl0 : l.stackTraces = false) (G : GG) (a1 : Int32) (a2 : Int32) (a3 : Int32) (m0 : Mem) (v : Bool) (m' : Mem) (hF : F_M_mayFollow a1 a2 a3 m0 = some (v, m')) : Ct l G mr0 N0 yX11_mayFollow cX11_mayFollow 4 (some .boolean) 1 [.ref (G.2.1 + 78), .int a1, .int a2, .int a3] m0 (some (.int (b2i v))) m' := by
  refine Ct_of hl0 (by decide) (Nat.le_of_ble_eq_true rfl) ?_
  intro p e s mid args below meth c ls C hrt hl hR
  have hx := C.1.1
  have hb := C.1.2.1
  have hl : lv_has ls 4 [(0, .ref (G.2.1 + 78)), (1, .int a1), (2, .int a2), (3, .int a3)] := hl
  unfold F_M_mayFollow at hF
  refine lv_iload_n hx hb (dk DX11_mayFollow 0 rfl) rfl (lv_at hl 1 rfl) ?_
  refine lv_iconst (v := (2 : Int32)) hx hb (dk DX11_mayFollow 1 rfl) (by decide) ?_
  refine lv_icmp_ne (tgt := 25) hx hb (dk DX11_mayFollow 2 rfl) (by decide) (fun c2 => ?_) (fun c2 => ?_)
  · have hF := if_f c2 hF
    refine lv_iconst (v := (0 : Int32)) hx hb (dk DX11_mayFollow 14 rfl) (by decide) ?_
    cases hF
    exact r_zret (v := false) C hrt hR (dk DX11_mayFollow 15 rfl)
  · have hF := if_t c2 hF
    refine lv_iload_n hx hb (dk DX11_mayFollow 3 rfl) rfl (lv_at hl 2 rfl) ?_
    refine lv_bipush (v := (10 : Int32)) hx hb (dk DX11_mayFollow 4 rfl) (by decide) ?_
    refine lv_icmp_ne (tgt := 25) hx hb (dk DX11_mayFollow 5 rfl) (by decide) (fun c8 => ?_) (fun c8 => ?_)
    · have hF := if_f c8 hF
      refine lv_iconst (v := (0 : Int32)) hx hb (dk DX11_mayFollow 14 rfl) (by decide) ?_
      cases hF
      exact r_zret (v := false) C hrt hR (dk DX11_mayFollow 15 rfl)
    · have hF := if_t c8 hF
      refine lv_iload_n hx hb (dk DX11_mayFollow 6 rfl) rfl (lv_at hl 3 rfl) ?_
      refine lv_aload_n hx hb (dk DX11_mayFollow 7 rfl) rfl (lv_at hl 0 rfl) ?_
      refine gX11_13 C hR ob78 rf78_1 (dk DX11_mayFollow 8 rfl) ?_
      refine lv_iconst (v := (1 : Int32)) hx hb (dk DX11_mayFollow 9 rfl) (by decide) ?_
      refine r_iald C hR ob79 rfl (dk DX11_mayFollow 10 rfl) ?_
      refine lv_icmp_lt (tgt := 25) hx hb (dk DX11_mayFollow 11 rfl) (by decide) (fun c18 => ?_) (fun c18 => ?_)
      · have hF := if_t c18 hF
        refine lv_iconst (v := (0 : Int32)) hx hb (dk DX11_mayFollow 14 rfl) (by decide) ?_
        cases hF
        exact r_zret (v := false) C hrt hR (dk DX11_mayFollow 15 rfl)
      · have hF := if_f c18 hF
        refine lv_iconst (v := (1 : Int32)) hx hb (dk DX11_mayFollow 12 rfl) (by decide) ?_
        refine lv_goto (tgt := 26) hx hb (dk DX11_mayFollow 13 rfl) (by decide) ?_
        cases hF
        exact r_zret (v := true) C hrt hR (dk DX11_mayFollow 15 rfl)
set_option maxHeartbeats 4000000 in
set_option maxRecDepth 100000 in
theorem C_M_handsOver (l : Launch) (hl0 : l.stackTraces = false) (G : GG) (a1 : Int32) (a2 : Int32) (a3 : Int32) (m0 : Mem) (v : Unit) (m' : Mem) (hF : F_M_handsOver a1 a2 a3 m0 = some (v, m')) : Ct l G mr0 N0 yX11_handsOver cX11_handsOver 4 none 2 [.ref (G.2.1 + 78), .int a1, .int a2, .int a3] m0 none m' := by
  refine Ct_of hl0 (by decide) (Nat.le_of_ble_eq_true rfl) ?_
  intro p e s mid args below meth c ls C hrt hl hR
  have hx := C.1.1
  have hb := C.1.2.1
  have hl : lv_has ls 4 [(0, .ref (G.2.1 + 78)), (1, .int a1), (2, .int a2), (3, .int a3)] := hl
  unfold F_M_handsOver at hF
  refine lv_aload_n hx hb (dk DX11_handsOver 0 rfl) rfl (lv_at hl 0 rfl) ?_
  refine lv_aload_n hx hb (dk DX11_handsOver 1 rfl) rfl (lv_at hl 0 rfl) ?_
  refine gX11_43 C hR ob78 rf78_18 (dk DX11_handsOver 2 rfl) ?_
  refine lv_iload_n hx hb (dk DX11_handsOver 3 rfl) rfl (lv_at hl 1 rfl) ?_
  refine lv_iload_n hx hb (dk DX11_handsOver 4 rfl) rfl (lv_at hl 2 rfl) ?_
  refine lv_bipush (v := (10 : Int32)) hx hb (dk DX11_handsOver 5 rfl) (by decide) ?_
  refine lv_iload_n hx hb (dk DX11_handsOver 6 rfl) rfl (lv_at hl 3 rfl) ?_
  refine lv_ineg hx hb (dk DX11_handsOver 7 rfl) ?_
  obtain ⟨x3, m1, hz2, hF⟩ := bnd_ex hF
  refine r_callSi (As := [.int a1, .int a2, .int (10 : Int32), .int (-a3)]) (rest := [.ref (G.2.1 + 87), .ref (G.2.1 + 78)]) C hR (C_M_cell l hl0 G a1 a2 (10 : Int32) (-a3) m0 _ _ hz2) (by decide) (by decide) wX11_357 rfl rfl (Nat.le_of_ble_eq_true rfl) hl.1 ⟨Nat.zero_le _, Nat.zero_le _⟩ (dk DX11_handsOver 8 rfl) (fun H locs hR => ?_)
  obtain ⟨h4, hF⟩ := ckB_ex hF
  refine r_iald C hR ob87 h4 (dk DX11_handsOver 9 rfl) ?_
  refine lv_topi (fun x5 ex5 => ?_)
  have hF := lt_at ex5 hF
  refine pX11_340 (x := x5) C hR ob78 (dk DX11_handsOver 10 rfl) (fun H locs hR => ?_)
  obtain ⟨m6, em6, hF⟩ := lt_ex hF
  have hR := Rp_at em6 hR
  refine lv_aload_n hx hb (dk DX11_handsOver 11 rfl) rfl (lv_at hl 0 rfl) ?_
  refine lv_aload_n hx hb (dk DX11_handsOver 12 rfl) rfl (lv_at hl 0 rfl) ?_
  refine gX11_40 C hR ob78 rf78_17 (dk DX11_handsOver 13 rfl) ?_
  refine lv_iload_n hx hb (dk DX11_handsOver 14 rfl) rfl (lv_at hl 1 rfl) ?_
  refine lv_iload_n hx hb (dk DX11_handsOver 15 rfl) rfl (lv_at hl 2 rfl) ?_
  refine lv_bipush (v := (10 : Int32)) hx hb (dk DX11_handsOver 16 rfl) (by decide) ?_
  refine lv_iload_n hx hb (dk DX11_handsOver 17 rfl) rfl (lv_at hl 3 rfl) ?_
  refine lv_ineg hx hb (dk DX11_handsOver 18 rfl) ?_
  obtain ⟨x9, m7, hz8, hF⟩ := bnd_ex hF
  refine r_callSi (As := [.int a1, .int a2, .int (10 : Int32), .int (-a3)]) (rest := [.ref (G.2.1 + 86), .ref (G.2.1 + 78)]) C hR (C_M_cell l hl0 G a1 a2 (10 : Int32) (-a3) m6 _ _ hz8) (by decide) (by decide) wX11_357 rfl rfl (Nat.le_of_ble_eq_true rfl) hl.1 ⟨Nat.zero_le _, Nat.zero_le _⟩ (dk DX11_handsOver 19 rfl) (fun H locs hR => ?_)
  obtain ⟨h10, hF⟩ := ckB_ex hF
  refine r_iald C hR ob86 h10 (dk DX11_handsOver 20 rfl) ?_
  refine lv_topi (fun x11 ex11 => ?_)
  have hF := lt_at ex11 hF
  refine pX11_343 (x := x11) C hR ob78 (dk DX11_handsOver 21 rfl) (fun H locs hR => ?_)
  obtain ⟨m12, em12, hF⟩ := lt_ex hF
  have hR := Rp_at em12 hR
  cases hF
  exact r_vret C hrt hR (dk DX11_handsOver 22 rfl)
set_option maxHeartbeats 4000000 in
set_option maxRecDepth 100000 in
theorem C_M_tries (l : Launch) (hl0 : l.stackTraces = false) (G : GG) (a1 : Int32) (a2 : Int32) (a3 : Int32) (a4 : Int32) (m0 : Mem) (v : Unit) (m' : Mem) (hF : F_M_tries a1 a2 a3 a4 m0 = some (v, m')) : Ct l G mr0 N0 yX11_tries cX11_tries 5 none 6 [.ref (G.2.1 + 78), .int a1, .int a2, .int a3, .int a4] m0 none m' := by
  refine Ct_of hl0 (by decide) (Nat.le_of_ble_eq_true rfl) ?_
  intro p e s mid args below meth c ls C hrt hl hR
  have hx := C.1.1
  have hb := C.1.2.1
  have hl : lv_has ls 5 [(0, .ref (G.2.1 + 78)), (1, .int a1), (2, .int a2), (3, .int a3), (4, .int a4)] := hl
  unfold F_M_tries at hF
  refine lv_iload_n hx hb (dk DX11_tries 0 rfl) rfl (lv_at hl 2 rfl) ?_
  refine lv_iconst (v := (3 : Int32)) hx hb (dk DX11_tries 1 rfl) (by decide) ?_
  refine lv_icmp_le (tgt := 18) hx hb (dk DX11_tries 2 rfl) (by decide) (fun c2 => ?_) (fun c2 => ?_)
  · have hF := if_t c2 hF
    refine lv_aload_n hx hb (dk DX11_tries 11 rfl) rfl (lv_at hl 0 rfl) ?_
    refine lv_iload_n hx hb (dk DX11_tries 12 rfl) rfl (lv_at hl 2 rfl) ?_
    refine lv_iload_n hx hb (dk DX11_tries 13 rfl) rfl (lv_at hl 3 rfl) ?_
    obtain ⟨z3, m1, hz2, hF⟩ := bnd_ex hF
    refine r_callVi (As := [.int a2, .int a3]) (rest := []) C hR (C_M_mayDeclare l hl0 G a2 a3 m0 _ _ hz2) (by decide) (by decide) ob78 rfl wX11_372 rfl rfl (Nat.le_of_ble_eq_true rfl) hl.1 ⟨Nat.zero_le _, Nat.zero_le _⟩ (dk DX11_tries 14 rfl) (fun H locs hR => ?_)
    refine z_ifeq (tgt := 41) hx hb (dk DX11_tries 15 rfl) (by decide) (fun c24 => ?_) (fun c24 => ?_)
    · have hF := if_f c24 hF
      refine lv_aload_n hx hb (dk DX11_tries 23 rfl) rfl (lv_at hl 0 rfl) ?_
      refine lv_iload_n hx hb (dk DX11_tries 24 rfl) rfl (lv_at hl 2 rfl) ?_
      refine lv_iload_n hx hb (dk DX11_tries 25 rfl) rfl (lv_at hl 3 rfl) ?_
      refine lv_iload hx hb (dk DX11_tries 26 rfl) (lv_at hl 4 rfl) ?_
      obtain ⟨z6, m4, hz5, hF⟩ := bnd_ex hF
      refine r_callVi (As := [.int a2, .int a3, .int a4]) (rest := []) C hR (C_M_mayFollow l hl0 G a2 a3 a4 m1 _ _ hz5) (by decide) (by decide) ob78 rfl wX11_379 rfl rfl (Nat.le_of_ble_eq_true rfl) hl.1 ⟨Nat.zero_le _, Nat.zero_le _⟩ (dk DX11_tries 27 rfl) (fun H locs hR => ?_)
      refine z_ifeq (tgt := 60) hx hb (dk DX11_tries 28 rfl) (by decide) (fun c49 => ?_) (fun c49 => ?_)
      · have hF := if_f c49 hF
        cases hF
        exact r_vret C hrt hR (dk DX11_tries 34 rfl)
      · have hF := if_t c49 hF
        refine lv_aload_n hx hb (dk DX11_tries 29 rfl) rfl (lv_at hl 0 rfl) ?_
        refine lv_iload_n hx hb (dk DX11_tries 30 rfl) rfl (lv_at hl 1 rfl) ?_
        refine lv_iconst (v := (3 : Int32)) hx hb (dk DX11_tries 31 rfl) (by decide) ?_
        refine lv_iload hx hb (dk DX11_tries 32 rfl) (lv_at hl 4 rfl) ?_
        obtain ⟨u9, m7, hz8, hF⟩ := bnd_ex hF
        refine r_callVv (As := [.int a1, .int (3 : Int32), .int a4]) (rest := []) C hR (C_M_handsOver l hl0 G a1 (3 : Int32) a4 m4 _ _ hz8) (by decide) (by decide) ob78 rfl wX11_375 rfl rfl (Nat.le_of_ble_eq_true rfl) hl.1 ⟨Nat.zero_le _, Nat.zero_le _⟩ (dk DX11_tries 33 rfl) (fun H locs hR => ?_)
        cases hF
        exact r_vret C hrt hR (dk DX11_tries 34 rfl)
    · have hF := if_t c24 hF
      refine lv_aload_n hx hb (dk DX11_tries 16 rfl) rfl (lv_at hl 0 rfl) ?_
      refine lv_iload_n hx hb (dk DX11_tries 17 rfl) rfl (lv_at hl 1 rfl) ?_
      refine lv_iload_n hx hb (dk DX11_tries 18 rfl) rfl (lv_at hl 2 rfl) ?_
      obtain ⟨x12, m10, hz11, hF⟩ := bnd_ex hF
      refine r_callSi (As := [.int a2]) (rest := [.int a1, .ref (G.2.1 + 78)]) C hR (C_M_nextKind l hl0 G a2 m1 _ _ hz11) (by decide) (by decide) wX11_361 rfl rfl (Nat.le_of_ble_eq_true rfl) hl.1 ⟨Nat.zero_le _, Nat.zero_le _⟩ (dk DX11_tries 19 rfl) (fun H locs hR => ?_)
      refine lv_iload hx hb (dk DX11_tries 20 rfl) (lv_at hl 4 rfl) ?_
      obtain ⟨u15, m13, hz14, hF⟩ := bnd_ex hF
      refine r_callVv (As := [.int a1, .int x12, .int a4]) (rest := []) C hR (C_M_handsOver l hl0 G a1 x12 a4 m10 _ _ hz14) (by decide) (by decide) ob78 rfl wX11_375 rfl rfl (Nat.le_of_ble_eq_true rfl) hl.1 ⟨Nat.zero_le _, Nat.zero_le _⟩ (dk DX11_tries 21 rfl) (fun H locs hR => ?_)
      refine lv_goto (tgt := 60) hx hb (dk DX11_tries 22 rfl) (by decide) ?_
      cases hF
      exact r_vret C hrt hR (dk DX11_tries 34 rfl)
  · have hF := if_f c2 hF
    refine lv_aload_n hx hb (dk DX11_tries 3 rfl) rfl (lv_at hl 0 rfl) ?_
    refine lv_iload_n hx hb (dk DX11_tries 4 rfl) rfl (lv_at hl 1 rfl) ?_
    refine lv_iload_n hx hb (dk DX11_tries 5 rfl) rfl (lv_at hl 2 rfl) ?_
    refine lv_iload_n hx hb (dk DX11_tries 6 rfl) rfl (lv_at hl 3 rfl) ?_
    refine lv_iload hx hb (dk DX11_tries 7 rfl) (lv_at hl 4 rfl) ?_
    refine lv_iconst (v := (1 : Int32)) hx hb (dk DX11_tries 8 rfl) (by decide) ?_
    obtain ⟨u18, m16, hz17, hF⟩ := bnd_ex hF
    refine r_callVv (As := [.int a1, .int a2, .int a3, .int a4, .int (b2i true)]) (rest := []) C hR (C_M_goesOn l hl0 G a1 a2 a3 a4 true m0 _ _ hz17) (by decide) (by decide) ob78 rfl wX11_368 rfl rfl (Nat.le_of_ble_eq_true rfl) hl.1 ⟨Nat.zero_le _, Nat.zero_le _⟩ (dk DX11_tries 9 rfl) (fun H locs hR => ?_)
    refine lv_goto (tgt := 60) hx hb (dk DX11_tries 10 rfl) (by decide) ?_
    cases hF
    exact r_vret C hrt hR (dk DX11_tries 34 rfl)
