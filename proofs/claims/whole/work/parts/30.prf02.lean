set_option maxHeartbeats 4000000 in
set_option maxRecDepth 100000 in
theorem C_Mo_toldRight (l : Launch) (hl0 : l.stackTraces = false) (G : GG) (m0 : Mem) (v : Int32) (m' : Mem) (hF : F_Mo_toldRight m0 = some (v, m')) : Ct l G mr0 N0 yX6_toldRight cX6_toldRight 3 (some .int) 1 [.ref (G.2.1 + 61)] m0 (some (.int v)) m' := by
  refine Ct_of hl0 (by decide) (Nat.le_of_ble_eq_true rfl) ?_
  intro p e s mid args below meth c ls C hrt hl hR
  have hx := C.1.1
  have hb := C.1.2.1
  have hl : lv_has ls 3 [(0, .ref (G.2.1 + 61))] := hl
  unfold F_Mo_toldRight at hF
  refine lv_iconst (v := (0 : Int32)) hx hb (dk DX6_toldRight 0 rfl) (by decide) ?_
  refine lv_istore_n (lv' := [(1, .int (0 : Int32)), (0, .ref (G.2.1 + 61))]) hx hb (dk DX6_toldRight 1 rfl) rfl hl (by decide) rfl (fun ls hl => ?_)
  refine lv_iconst (v := (0 : Int32)) hx hb (dk DX6_toldRight 2 rfl) (by decide) ?_
  refine lv_istore_n (lv' := [(2, .int (0 : Int32)), (1, .int (0 : Int32)), (0, .ref (G.2.1 + 61))]) hx hb (dk DX6_toldRight 3 rfl) rfl hl (by decide) rfl (fun ls hl => ?_)
  have L4 : ∀ (nf : Nat) (xq2 : Int32) (xq3 : Int32) (mq1 : Mem) (H : Heap) (locs : List Loc) (ls : Array Slot), lv_has ls 3 [(0, .ref (G.2.1 + 61)), (1, .int xq2), (2, .int xq3)] → Rp G mr0 N0 mq1 s H locs → F_Mo_toldRight_L4 nf xq2 xq3 mq1 = some (v, m') → W p l e (rmD 1) s mid args below meth c H locs 0 0 (MQ below (QR G mr0 N0 (some (.int v)) m') args s 0 0 (fun q => G.2.1 ≤ q)) (F0 mid 4 ls []) := by
    intro nf
    induction nf with
    | zero =>
      intro xq2 xq3 mq1 H locs ls hl hR hF
      rw [F_Mo_toldRight_L4] at hF
      cases hF
    | succ nf ihq5 =>
      intro xq2 xq3 mq1 H locs ls hl hR hF
      rw [F_Mo_toldRight_L4] at hF
      refine lv_iload_n hx hb (dk DX6_toldRight 4 rfl) rfl (lv_at hl 2 rfl) ?_
      refine lv_bipush (v := (16 : Int32)) hx hb (dk DX6_toldRight 5 rfl) (by decide) ?_
      refine lv_icmp_ge (tgt := 34) hx hb (dk DX6_toldRight 6 rfl) (by decide) (fun c7 => ?_) (fun c7 => ?_)
      · have hF := if_t c7 hF
        refine lv_iload_n hx hb (dk DX6_toldRight 21 rfl) rfl (lv_at hl 1 rfl) ?_
        cases hF
        exact r_iret C hrt hR (dk DX6_toldRight 22 rfl)
      · have hF := if_f c7 hF
        refine lv_iload_n hx hb (dk DX6_toldRight 7 rfl) rfl (lv_at hl 1 rfl) ?_
        refine lv_aload_n hx hb (dk DX6_toldRight 8 rfl) rfl (lv_at hl 0 rfl) ?_
        refine gX6_9 C hR ob61 rf61_0 (dk DX6_toldRight 9 rfl) ?_
        refine lv_iload_n hx hb (dk DX6_toldRight 10 rfl) rfl (lv_at hl 2 rfl) ?_
        obtain ⟨hq6, hF⟩ := ckB_ex hF
        refine r_iald C hR ob62 hq6 (dk DX6_toldRight 11 rfl) ?_
        refine lv_topi (fun xq7 exq7 => ?_)
        have hF := lt_at exq7 hF
        refine lv_aload_n hx hb (dk DX6_toldRight 12 rfl) rfl (lv_at hl 0 rfl) ?_
        refine gX6_13 C hR ob61 rf61_1 (dk DX6_toldRight 13 rfl) ?_
        refine lv_iload_n hx hb (dk DX6_toldRight 14 rfl) rfl (lv_at hl 2 rfl) ?_
        obtain ⟨hq8, hF⟩ := ckB_ex hF
        refine r_iald C hR ob63 hq8 (dk DX6_toldRight 15 rfl) ?_
        refine lv_topi (fun xq9 exq9 => ?_)
        have hF := lt_at exq9 hF
        refine r_mxI C (gd q1571 rfl) (by decide) (Nat.le_of_ble_eq_true rfl) hl.1 ⟨Nat.zero_le _, Nat.zero_le _⟩ (dk DX6_toldRight 16 rfl) ?_
        refine lv_iadd hx hb (dk DX6_toldRight 17 rfl) ?_
        refine lv_topi (fun xq10 exq10 => ?_)
        have hF := lt_at exq10 hF
        refine lv_istore_n (lv' := [(1, .int xq10), (0, .ref (G.2.1 + 61)), (2, .int xq3)]) hx hb (dk DX6_toldRight 18 rfl) rfl hl (by decide) rfl (fun ls hl => ?_)
        obtain ⟨xq11, exq11, hF⟩ := lt_ex hF
        refine lv_iinc (v := xq11) (lv' := [(2, .int xq11), (1, .int xq10), (0, .ref (G.2.1 + 61))]) hx hb (dk DX6_toldRight 19 rfl) hl (k := 2) rfl (by rw [exq11]; rfl) (by decide) rfl (fun ls hl => ?_)
        refine lv_goto (tgt := 4) hx hb (dk DX6_toldRight 20 rfl) (by decide) ?_
        exact ihq5 xq10 xq11 mq1 _ _ ls (lv_sub hl [2, 1, 0] rfl) hR hF
  exact L4 1000000 (0 : Int32) (0 : Int32) m0 _ _ ls (lv_sub hl [2, 1, 0] rfl) hR hF
set_option maxHeartbeats 4000000 in
set_option maxRecDepth 100000 in
theorem C_T_best (l : Launch) (hl0 : l.stackTraces = false) (G : GG) (a1 : Bool) (a2 : Bool) (m0 : Mem) (v : Nat ⊕ Int32) (m' : Mem) (hF : F_T_best a1 a2 m0 = some (v, m')) : CtX l G mr0 N0 yX10_best cX10_best 10 (some .int) 8 [.ref (G.2.1 + 0), .int (b2i a1), .int (b2i a2)] m0 (ouI v) m' := by
  refine CtX_of hl0 (by decide) (Nat.le_of_ble_eq_true rfl) ?_
  intro p e s mid args below meth c ls C hrt hex hl hR
  have hx := C.1.1
  have hb := C.1.2.1
  have hl : lv_has ls 10 [(0, .ref (G.2.1 + 0)), (1, .int (b2i a1)), (2, .int (b2i a2))] := hl
  unfold F_T_best at hF
  refine lv_aload_n hx hb (dk DX10_best 0 rfl) rfl (lv_at hl 0 rfl) ?_
  obtain ⟨xq3, mq1, hzq2, hF⟩ := bnd_ex hF
  refine r_callVi (As := []) (rest := []) C hR (C_T_useTape l hl0 G m0 _ _ hzq2) (by decide) (by decide) ob0 rfl wX10_89 rfl rfl (Nat.le_of_ble_eq_true rfl) hl.1 ⟨Nat.zero_le _, Nat.zero_le _⟩ (dk DX10_best 1 rfl) (fun H locs hR => ?_)
  refine lv_istore_n (lv' := [(3, .int xq3), (0, .ref (G.2.1 + 0)), (1, .int (b2i a1)), (2, .int (b2i a2))]) hx hb (dk DX10_best 2 rfl) rfl hl (by decide) rfl (fun ls hl => ?_)
  refine lv_aload_n hx hb (dk DX10_best 3 rfl) rfl (lv_at hl 1 rfl) ?_
  refine lv_iload_n hx hb (dk DX10_best 4 rfl) rfl (lv_at hl 0 rfl) ?_
  obtain ⟨zq6, mq4, hzq5, hF⟩ := bnd_ex hF
  refine r_callVi (As := [.int xq3]) (rest := []) C hR (C_T_tapeIsMornings l hl0 G xq3 mq1 _ _ hzq5) (by decide) (by decide) ob0 rfl wX10_386 rfl rfl (Nat.le_of_ble_eq_true rfl) hl.1 ⟨Nat.zero_le _, Nat.zero_le _⟩ (dk DX10_best 5 rfl) (fun H locs hR => ?_)
  refine z_ifne (tgt := 24) hx hb (dk DX10_best 6 rfl) (by decide) (fun c10 => ?_) (fun c10 => ?_)
  · have hF := if_t c10 hF
    refine lv_iconst (v := (0 : Int32)) hx hb (dk DX10_best 12 rfl) (by decide) ?_
    refine lv_istore (lv' := [(4, .int (0 : Int32)), (3, .int xq3), (0, .ref (G.2.1 + 0)), (1, .int (b2i a1)), (2, .int (b2i a2))]) hx hb (dk DX10_best 13 rfl) hl (by decide) rfl (fun ls hl => ?_)
    refine lv_iconst (v := (-1 : Int32)) hx hb (dk DX10_best 14 rfl) (by decide) ?_
    refine lv_istore (lv' := [(5, .int (-1 : Int32)), (4, .int (0 : Int32)), (3, .int xq3), (0, .ref (G.2.1 + 0)), (1, .int (b2i a1)), (2, .int (b2i a2))]) hx hb (dk DX10_best 15 rfl) hl (by decide) rfl (fun ls hl => ?_)
    refine lv_iconst (v := (0 : Int32)) hx hb (dk DX10_best 16 rfl) (by decide) ?_
    refine lv_istore (lv' := [(6, .int (0 : Int32)), (5, .int (-1 : Int32)), (4, .int (0 : Int32)), (3, .int xq3), (0, .ref (G.2.1 + 0)), (1, .int (b2i a1)), (2, .int (b2i a2))]) hx hb (dk DX10_best 17 rfl) hl (by decide) rfl (fun ls hl => ?_)
    obtain ⟨k128_9, ek128_9, hF⟩ := lt_ex hF
    have J128 : ∀ (xq8 : Int32) (xq9 : Int32) (mq7 : Mem) (H : Heap) (locs : List Loc) (ls : Array Slot), lv_has ls 10 [(2, .int (b2i a2)), (4, .int xq8), (5, .int xq9)] → Rp G mr0 N0 mq7 s H locs → k128_9 xq8 xq9 mq7 = some (v, m') → W p l e (rmX 8 (ouI v)) s mid args below meth c H locs 0 0 (ZX below G mr0 N0 (ouI v) m' args s) (F0 mid 128 ls []) := by
      intro xq8 xq9 mq7 H locs ls hl hR hF
      rw [ek128_9] at hF
      refine lv_iload_n hx hb (dk DX10_best 63 rfl) rfl (lv_at hl 0 rfl) ?_
      refine z_ifeq (tgt := 137) hx hb (dk DX10_best 64 rfl) (by decide) (fun c129 => ?_) (fun c129 => ?_)
      · have hF := if_f c129 hF
        refine lv_iload hx hb (dk DX10_best 67 rfl) (lv_at hl 1 rfl) ?_
        cases hF
        exact x_iret C hrt hR (dk DX10_best 68 rfl)
      · have hF := if_t c129 hF
        refine lv_iload hx hb (dk DX10_best 65 rfl) (lv_at hl 2 rfl) ?_
        refine lv_goto (tgt := 139) hx hb (dk DX10_best 66 rfl) (by decide) ?_
        cases hF
        exact x_iret C hrt hR (dk DX10_best 68 rfl)
    have L33 : ∀ (nf : Nat) (xq11 : Int32) (xq12 : Int32) (xq13 : Int32) (mq10 : Mem) (H : Heap) (locs : List Loc) (ls : Array Slot), lv_has ls 10 [(0, .ref (G.2.1 + 0)), (1, .int (b2i a1)), (2, .int (b2i a2)), (3, .int xq3), (4, .int xq11), (5, .int xq12), (6, .int xq13)] → Rp G mr0 N0 mq10 s H locs → F_T_best_L33 a1 xq3 k128_9 nf xq11 xq12 xq13 mq10 = some (v, m') → W p l e (rmX 8 (ouI v)) s mid args below meth c H locs 0 0 (ZX below G mr0 N0 (ouI v) m' args s) (F0 mid 33 ls []) := by
      intro nf
      induction nf with
      | zero =>
        intro xq11 xq12 xq13 mq10 H locs ls hl hR hF
        rw [F_T_best_L33] at hF
        cases hF
      | succ nf ihq15 =>
        intro xq11 xq12 xq13 mq10 H locs ls hl hR hF
        rw [F_T_best_L33] at hF
        refine lv_iload hx hb (dk DX10_best 18 rfl) (lv_at hl 6 rfl) ?_
        refine lv_iconst (v := (3 : Int32)) hx hb (dk DX10_best 19 rfl) (by decide) ?_
        refine lv_icmp_ge (tgt := 128) hx hb (dk DX10_best 20 rfl) (by decide) (fun c36 => ?_) (fun c36 => ?_)
        · have hF := if_t c36 hF
          exact J128 xq11 xq12 mq10 _ _ ls (lv_sub hl [2, 4, 5] rfl) hR hF
        · have hF := if_f c36 hF
          refine lv_iload_n hx hb (dk DX10_best 21 rfl) rfl (lv_at hl 1 rfl) ?_
          obtain ⟨k59_17, ek59_17, hF⟩ := lt_ex hF
          have J59 : ∀ (xq17 : Int32) (mq16 : Mem) (H : Heap) (locs : List Loc) (ls : Array Slot), lv_has ls 10 [(0, .ref (G.2.1 + 0)), (1, .int (b2i a1)), (2, .int (b2i a2)), (3, .int xq3), (4, .int xq11), (5, .int xq12), (6, .int xq13)] → Rp G mr0 N0 mq16 s H locs → k59_17 xq17 mq16 = some (v, m') → W p l e (rmX 8 (ouI v)) s mid args below meth c H locs 0 0 (ZX below G mr0 N0 (ouI v) m' args s) (F0 mid 59 ls [.int xq17]) := by
            intro xq17 mq16 H locs ls hl hR hF
            rw [ek59_17] at hF
            refine lv_istore (lv' := [(7, .int xq17), (0, .ref (G.2.1 + 0)), (1, .int (b2i a1)), (2, .int (b2i a2)), (3, .int xq3), (4, .int xq11), (5, .int xq12), (6, .int xq13)]) hx hb (dk DX10_best 31 rfl) hl (by decide) rfl (fun ls hl => ?_)
            refine lv_iload_n hx hb (dk DX10_best 32 rfl) rfl (lv_at hl 2 rfl) ?_
            obtain ⟨k80_19, ek80_19, hF⟩ := lt_ex hF
            have J80 : ∀ (xq19 : Int32) (mq18 : Mem) (H : Heap) (locs : List Loc) (ls : Array Slot), lv_has ls 10 [(0, .ref (G.2.1 + 0)), (1, .int (b2i a1)), (2, .int (b2i a2)), (3, .int xq3), (4, .int xq11), (5, .int xq12), (6, .int xq13), (7, .int xq17)] → Rp G mr0 N0 mq18 s H locs → k80_19 xq19 mq18 = some (v, m') → W p l e (rmX 8 (ouI v)) s mid args below meth c H locs 0 0 (ZX below G mr0 N0 (ouI v) m' args s) (F0 mid 80 ls [.int xq19]) := by
              intro xq19 mq18 H locs ls hl hR hF
              rw [ek80_19] at hF
              refine lv_istore (lv' := [(8, .int xq19), (0, .ref (G.2.1 + 0)), (1, .int (b2i a1)), (2, .int (b2i a2)), (3, .int xq3), (4, .int xq11), (5, .int xq12), (6, .int xq13), (7, .int xq17)]) hx hb (dk DX10_best 41 rfl) hl (by decide) rfl (fun ls hl => ?_)
              refine lv_aload_n hx hb (dk DX10_best 42 rfl) rfl (lv_at hl 1 rfl) ?_
              refine gX10_68 C hR ob0 rf0_10 (dk DX10_best 43 rfl) ?_
              refine lv_aload_n hx hb (dk DX10_best 44 rfl) rfl (lv_at hl 1 rfl) ?_
              refine gX10_9 C hR ob0 rf0_0 (dk DX10_best 45 rfl) ?_
              refine lv_iload_n hx hb (dk DX10_best 46 rfl) rfl (lv_at hl 4 rfl) ?_
              refine lv_iload hx hb (dk DX10_best 47 rfl) (lv_at hl 8 rfl) ?_
              refine lv_iload hx hb (dk DX10_best 48 rfl) (lv_at hl 0 rfl) ?_
              obtain ⟨uq22, mq20, hzq21, hF⟩ := bnd_ex hF
              refine r_callVv (As := [.ref (G.2.1 + 1), .int xq3, .int xq17, .int xq19]) (rest := []) C hR (C_Mo_sort l hl0 G xq3 xq17 xq19 mq18 _ _ hzq21) (by decide) (by decide) ob61 rfl wX10_391 rfl rfl (Nat.le_of_ble_eq_true rfl) hl.1 ⟨Nat.zero_le _, Nat.zero_le _⟩ (dk DX10_best 49 rfl) (fun H locs hR => ?_)
              refine lv_aload_n hx hb (dk DX10_best 50 rfl) rfl (lv_at hl 1 rfl) ?_
              refine gX10_68 C hR ob0 rf0_10 (dk DX10_best 51 rfl) ?_
              obtain ⟨xq25, mq23, hzq24, hF⟩ := bnd_ex hF
              refine r_callVi (As := []) (rest := []) C hR (C_Mo_toldRight l hl0 G mq20 _ _ hzq24) (by decide) (by decide) ob61 rfl wX10_403 rfl rfl (Nat.le_of_ble_eq_true rfl) hl.1 ⟨Nat.zero_le _, Nat.zero_le _⟩ (dk DX10_best 52 rfl) (fun H locs hR => ?_)
              refine lv_istore (lv' := [(9, .int xq25), (8, .int xq19), (0, .ref (G.2.1 + 0)), (1, .int (b2i a1)), (2, .int (b2i a2)), (3, .int xq3), (4, .int xq11), (5, .int xq12), (6, .int xq13), (7, .int xq17)]) hx hb (dk DX10_best 53 rfl) hl (by decide) rfl (fun ls hl => ?_)
              refine lv_iload hx hb (dk DX10_best 54 rfl) (lv_at hl 0 rfl) ?_
              refine lv_iload hx hb (dk DX10_best 55 rfl) (lv_at hl 7 rfl) ?_
              obtain ⟨k122_28, ek122_28, hF⟩ := lt_ex hF
              have J122 : ∀ (xq27 : Int32) (xq28 : Int32) (mq26 : Mem) (H : Heap) (locs : List Loc) (ls : Array Slot), lv_has ls 10 [(0, .ref (G.2.1 + 0)), (1, .int (b2i a1)), (2, .int (b2i a2)), (3, .int xq3), (4, .int xq27), (5, .int xq28), (6, .int xq13)] → Rp G mr0 N0 mq26 s H locs → k122_28 xq27 xq28 mq26 = some (v, m') → W p l e (rmX 8 (ouI v)) s mid args below meth c H locs 0 0 (ZX below G mr0 N0 (ouI v) m' args s) (F0 mid 122 ls []) := by
                intro xq27 xq28 mq26 H locs ls hl hR hF
                rw [ek122_28] at hF
                obtain ⟨xq29, exq29, hF⟩ := lt_ex hF
                refine lv_iinc (v := xq29) (lv' := [(6, .int xq29), (0, .ref (G.2.1 + 0)), (1, .int (b2i a1)), (2, .int (b2i a2)), (3, .int xq3), (4, .int xq27), (5, .int xq28)]) hx hb (dk DX10_best 61 rfl) hl (k := 6) rfl (by rw [exq29]; rfl) (by decide) rfl (fun ls hl => ?_)
                refine lv_goto (tgt := 33) hx hb (dk DX10_best 62 rfl) (by decide) ?_
                exact ihq15 xq27 xq28 xq29 mq26 _ _ ls (lv_sub hl [1, 2, 3, 4, 5, 6, 0] rfl) hR hF
              refine lv_icmp_le (tgt := 122) hx hb (dk DX10_best 56 rfl) (by decide) (fun c111 => ?_) (fun c111 => ?_)
              · have hF := if_t c111 hF
                exact J122 xq11 xq12 mq23 _ _ ls (lv_sub hl [2, 3, 4, 5, 6, 7, 8] rfl) hR hF
              · have hF := if_f c111 hF
                refine lv_iload hx hb (dk DX10_best 57 rfl) (lv_at hl 0 rfl) ?_
                refine lv_istore (lv' := [(5, .int xq25), (9, .int xq25), (8, .int xq19), (0, .ref (G.2.1 + 0)), (1, .int (b2i a1)), (2, .int (b2i a2)), (3, .int xq3), (4, .int xq11), (6, .int xq13), (7, .int xq17)]) hx hb (dk DX10_best 58 rfl) hl (by decide) rfl (fun ls hl => ?_)
                refine lv_iload hx hb (dk DX10_best 59 rfl) (lv_at hl 8 rfl) ?_
                refine lv_istore (lv' := [(4, .int xq13), (5, .int xq25), (9, .int xq25), (8, .int xq19), (0, .ref (G.2.1 + 0)), (1, .int (b2i a1)), (2, .int (b2i a2)), (3, .int xq3), (6, .int xq13), (7, .int xq17)]) hx hb (dk DX10_best 60 rfl) hl (by decide) rfl (fun ls hl => ?_)
                exact J122 xq13 xq25 mq23 _ _ ls (lv_sub hl [4, 5, 6, 7, 0, 1, 8] rfl) hR hF
            refine z_ifeq (tgt := 78) hx hb (dk DX10_best 33 rfl) (by decide) (fun c62 => ?_) (fun c62 => ?_)
            · have hF := if_f c62 hF
              refine lv_iload hx hb (dk DX10_best 40 rfl) (lv_at hl 7 rfl) ?_
              exact J80 xq13 mq16 _ _ ls (lv_sub hl [1, 2, 3, 4, 5, 6, 7, 0] rfl) hR hF
            · have hF := if_t c62 hF
              refine lv_iload hx hb (dk DX10_best 34 rfl) (lv_at hl 7 rfl) ?_
              refine lv_if_ne (tgt := 74) hx hb (dk DX10_best 35 rfl) (by decide) (fun c67 => ?_) (fun c67 => ?_)
              · have hF := if_f c67 hF
                refine lv_iconst (v := (2 : Int32)) hx hb (dk DX10_best 38 rfl) (by decide) ?_
                refine lv_goto (tgt := 80) hx hb (dk DX10_best 39 rfl) (by decide) ?_
                exact J80 (2 : Int32) mq16 _ _ ls (lv_sub hl [1, 2, 3, 4, 5, 6, 7, 0] rfl) hR hF
              · have hF := if_t c67 hF
                refine lv_iconst (v := (1 : Int32)) hx hb (dk DX10_best 36 rfl) (by decide) ?_
                refine lv_goto (tgt := 80) hx hb (dk DX10_best 37 rfl) (by decide) ?_
                exact J80 (1 : Int32) mq16 _ _ ls (lv_sub hl [1, 2, 3, 4, 5, 6, 7, 0] rfl) hR hF
          refine z_ifeq (tgt := 57) hx hb (dk DX10_best 22 rfl) (by decide) (fun c40 => ?_) (fun c40 => ?_)
          · have hF := if_f c40 hF
            refine lv_iload hx hb (dk DX10_best 30 rfl) (lv_at hl 6 rfl) ?_
            exact J59 xq13 mq10 _ _ ls (lv_sub hl [0, 1, 2, 3, 4, 5, 6] rfl) hR hF
          · have hF := if_t c40 hF
            refine lv_iload hx hb (dk DX10_best 23 rfl) (lv_at hl 6 rfl) ?_
            refine lv_iconst (v := (2 : Int32)) hx hb (dk DX10_best 24 rfl) (by decide) ?_
            refine lv_icmp_ne (tgt := 53) hx hb (dk DX10_best 25 rfl) (by decide) (fun c46 => ?_) (fun c46 => ?_)
            · have hF := if_f c46 hF
              refine lv_iconst (v := (0 : Int32)) hx hb (dk DX10_best 28 rfl) (by decide) ?_
              refine lv_goto (tgt := 59) hx hb (dk DX10_best 29 rfl) (by decide) ?_
              exact J59 (0 : Int32) mq10 _ _ ls (lv_sub hl [0, 1, 2, 3, 4, 5, 6] rfl) hR hF
            · have hF := if_t c46 hF
              refine lv_iconst (v := (1 : Int32)) hx hb (dk DX10_best 26 rfl) (by decide) ?_
              refine lv_goto (tgt := 59) hx hb (dk DX10_best 27 rfl) (by decide) ?_
              exact J59 (1 : Int32) mq10 _ _ ls (lv_sub hl [0, 1, 2, 3, 4, 5, 6] rfl) hR hF
    exact L33 1000000 (0 : Int32) (-1 : Int32) (0 : Int32) mq4 _ _ ls (lv_sub hl [4, 5, 6, 3, 2, 1, 0] rfl) hR hF
  · have hF := if_f c10 hF
    cases hF
    exact r_throwW (d := 8) (k := 1) C hex hR tX10_113 strm_X10_401 (by decide) (Nat.le_of_ble_eq_true rfl) hl.1 (dk DX10_best 7 rfl) (dk DX10_best 8 rfl) (dk DX10_best 9 rfl) (dk DX10_best 10 rfl) (dk DX10_best 11 rfl)
set_option maxHeartbeats 4000000 in
set_option maxRecDepth 100000 in
theorem C_Ma_spot (l : Launch) (hl0 : l.stackTraces = false) (G : GG) (m0 : Mem) (v : Int32) (m' : Mem) (hF : F_Ma_spot m0 = some (v, m')) : Ct l G mr0 N0 yX5_spot cX5_spot 1 (some .int) 1 [.ref (G.2.1 + 16)] m0 (some (.int v)) m' := by
  refine Ct_of hl0 (by decide) (Nat.le_of_ble_eq_true rfl) ?_
  intro p e s mid args below meth c ls C hrt hl hR
  have hx := C.1.1
  have hb := C.1.2.1
  have hl : lv_has ls 1 [(0, .ref (G.2.1 + 16))] := hl
  unfold F_Ma_spot at hF
  refine lv_aload_n hx hb (dk DX5_spot 0 rfl) rfl (lv_at hl 0 rfl) ?_
  refine gX5_31 C hR ob16 (dk DX5_spot 1 rfl) ?_
  refine z_ifeq (tgt := 12) hx hb (dk DX5_spot 2 rfl) (by decide) (fun c4 => ?_) (fun c4 => ?_)
  · have hF := if_f c4 hF
    refine lv_aload_n hx hb (dk DX5_spot 5 rfl) rfl (lv_at hl 0 rfl) ?_
    refine gX5_18 C hR ob16 (dk DX5_spot 6 rfl) ?_
    cases hF
    exact r_iret C hrt hR (dk DX5_spot 7 rfl)
  · have hF := if_t c4 hF
    refine lv_bipush (v := (10 : Int32)) hx hb (dk DX5_spot 3 rfl) (by decide) ?_
    refine lv_goto (tgt := 16) hx hb (dk DX5_spot 4 rfl) (by decide) ?_
    cases hF
    exact r_iret C hrt hR (dk DX5_spot 7 rfl)
set_option maxHeartbeats 4000000 in
set_option maxRecDepth 100000 in
theorem C_Od_waysFrom (l : Launch) (hl0 : l.stackTraces = false) (G : GG) (a1 : Int32) (a2 : Int32) (a3 : Int32) (a4 : Int32) (m0 : Mem) (v : Int64) (m' : Mem) (hF : F_Od_waysFrom a1 a2 a3 a4 m0 = some (v, m')) : Ct l G mr0 N0 yX7_waysFrom cX7_waysFrom 5 (some .long) 286 [.ref (G.2.1 + 2), .int a1, .int a2, .int a3, .int a4] m0 (some (.long v)) m' := by
  refine Ct_of hl0 (by decide) (Nat.le_of_ble_eq_true rfl) ?_
  intro p e s mid args below meth c ls C hrt hl hR
  have hx := C.1.1
  have hb := C.1.2.1
  have hl : lv_has ls 5 [(0, .ref (G.2.1 + 2)), (1, .int a1), (2, .int a2), (3, .int a3), (4, .int a4)] := hl
  unfold F_Od_waysFrom at hF
  refine lv_aload_n hx hb (dk DX7_waysFrom 0 rfl) rfl (lv_at hl 0 rfl) ?_
  refine lv_iload_n hx hb (dk DX7_waysFrom 1 rfl) rfl (lv_at hl 1 rfl) ?_
  refine lv_iload_n hx hb (dk DX7_waysFrom 2 rfl) rfl (lv_at hl 2 rfl) ?_
  refine lv_iload_n hx hb (dk DX7_waysFrom 3 rfl) rfl (lv_at hl 3 rfl) ?_
  refine lv_iload hx hb (dk DX7_waysFrom 4 rfl) (lv_at hl 4 rfl) ?_
  obtain ⟨yq3, mq1, hzq2, hF⟩ := bnd_ex hF
  refine r_callVl (As := [.int a1, .int a2, .int a3, .int a4]) (rest := []) C hR (C_Od_waysAt l hl0 G 40 a1 a2 a3 a4 m0 _ _ hzq2) (by decide) (by decide) ob2 rfl wX7_56 rfl rfl (Nat.le_of_ble_eq_true rfl) hl.1 ⟨Nat.zero_le _, Nat.zero_le _⟩ (dk DX7_waysFrom 5 rfl) (fun H locs hR => ?_)
  cases hF
  exact r_lret C hrt hR (dk DX7_waysFrom 6 rfl)
set_option maxHeartbeats 4000000 in
set_option maxRecDepth 100000 in
theorem C_T_oddsFromHere (l : Launch) (hl0 : l.stackTraces = false) (G : GG) (a1 : Int32) (a2 : Bool) (m0 : Mem) (v : Nat ⊕ Int64) (m' : Mem) (hF : F_T_oddsFromHere a1 a2 m0 = some (v, m')) : CtX l G mr0 N0 yX10_oddsFromHere cX10_oddsFromHere 5 (some .long) 287 [.ref (G.2.1 + 0), .int a1, .int (b2i a2)] m0 (ouL v) m' := by
  refine CtX_of hl0 (by decide) (Nat.le_of_ble_eq_true rfl) ?_
  intro p e s mid args below meth c ls C hrt hex hl hR
  have hx := C.1.1
  have hb := C.1.2.1
  have hl : lv_has ls 5 [(0, .ref (G.2.1 + 0)), (1, .int a1), (2, .int (b2i a2))] := hl
  unfold F_T_oddsFromHere at hF
  refine lv_aload_n hx hb (dk DX10_oddsFromHere 0 rfl) rfl (lv_at hl 0 rfl) ?_
  refine gX10_37 C hR ob0 rf0_5 (dk DX10_oddsFromHere 1 rfl) ?_
  refine gX10_93 C hR ob16 (dk DX10_oddsFromHere 2 rfl) ?_
  refine lv_iconst (v := (-1 : Int32)) hx hb (dk DX10_oddsFromHere 3 rfl) (by decide) ?_
  refine lv_icmp_ne (tgt := 22) hx hb (dk DX10_oddsFromHere 4 rfl) (by decide) (fun c8 => ?_) (fun c8 => ?_)
  · have hF := if_f c8 hF
    refine lv_iload_n hx hb (dk DX10_oddsFromHere 10 rfl) rfl (lv_at hl 1 rfl) ?_
    obtain ⟨k31_1, ek31_1, hF⟩ := lt_ex hF
    have J31 : ∀ (mq1 : Mem) (H : Heap) (locs : List Loc) (ls : Array Slot), lv_has ls 5 [] → Rp G mr0 N0 mq1 s H locs → k31_1  mq1 = some (v, m') → W p l e (rmX 287 (ouL v)) s mid args below meth c H locs 0 0 (ZX below G mr0 N0 (ouL v) m' args s) (F0 mid 31 ls []) := by
      intro  mq1 H locs ls hl hR hF
      rw [ek31_1] at hF
      cases hF
      exact r_throw (d := 287) (k := 4) C hex hR tX10_186 strm_X10_184 (by decide) (Nat.le_of_ble_eq_true rfl) hl.1 (dk DX10_oddsFromHere 15 rfl) (dk DX10_oddsFromHere 16 rfl) (dk DX10_oddsFromHere 17 rfl) (dk DX10_oddsFromHere 18 rfl) (dk DX10_oddsFromHere 19 rfl)
    refine lv_if_lt (tgt := 31) hx hb (dk DX10_oddsFromHere 11 rfl) (by decide) (fun c23 => ?_) (fun c23 => ?_)
    · have hF := if_t c23 hF
      exact J31 m0 _ _ ls (lv_sub hl [] rfl) hR hF
    · have hF := if_f c23 hF
      refine lv_iload_n hx hb (dk DX10_oddsFromHere 12 rfl) rfl (lv_at hl 1 rfl) ?_
      refine lv_iconst (v := (3 : Int32)) hx hb (dk DX10_oddsFromHere 13 rfl) (by decide) ?_
      refine lv_icmp_le (tgt := 41) hx hb (dk DX10_oddsFromHere 14 rfl) (by decide) (fun c28 => ?_) (fun c28 => ?_)
      · have hF := if_t c28 hF
        refine lv_aload_n hx hb (dk DX10_oddsFromHere 20 rfl) rfl (lv_at hl 0 rfl) ?_
        refine gX10_23 C hR ob0 rf0_3 (dk DX10_oddsFromHere 21 rfl) ?_
        refine lv_aload_n hx hb (dk DX10_oddsFromHere 22 rfl) rfl (lv_at hl 0 rfl) ?_
        refine gX10_37 C hR ob0 rf0_5 (dk DX10_oddsFromHere 23 rfl) ?_
        refine gX10_93 C hR ob16 (dk DX10_oddsFromHere 24 rfl) ?_
        refine lv_aload_n hx hb (dk DX10_oddsFromHere 25 rfl) rfl (lv_at hl 0 rfl) ?_
        refine gX10_31 C hR ob0 rf0_4 (dk DX10_oddsFromHere 26 rfl) ?_
        refine gX10_200 C hR ob3 (dk DX10_oddsFromHere 27 rfl) ?_
        refine lv_iload_n hx hb (dk DX10_oddsFromHere 28 rfl) rfl (lv_at hl 2 rfl) ?_
        obtain ⟨uq4, mq2, hzq3, hF⟩ := bnd_ex hF
        refine r_callVv (As := [.int (gI m0 16 0), .int (gI m0 3 5), .int (b2i a2)]) (rest := []) C hR (C_Od_ready l hl0 G (gI m0 16 0) (gI m0 3 5) a2 m0 _ _ hzq3) (by decide) (by decide) ob2 rfl wX10_327 rfl rfl (Nat.le_of_ble_eq_true rfl) hl.1 ⟨Nat.zero_le _, Nat.zero_le _⟩ (dk DX10_oddsFromHere 29 rfl) (fun H locs hR => ?_)
        refine lv_aload_n hx hb (dk DX10_oddsFromHere 30 rfl) rfl (lv_at hl 0 rfl) ?_
        refine gX10_37 C hR ob0 rf0_5 (dk DX10_oddsFromHere 31 rfl) ?_
        refine gX10_225 C hR ob16 (dk DX10_oddsFromHere 32 rfl) ?_
        refine lv_iconst (v := (-1 : Int32)) hx hb (dk DX10_oddsFromHere 33 rfl) (by decide) ?_
        obtain ⟨k172_6, ek172_6, hF⟩ := lt_ex hF
        have J172 : ∀ (yq6 : Int64) (mq5 : Mem) (H : Heap) (locs : List Loc) (ls : Array Slot), lv_has ls 5 [(0, .ref (G.2.1 + 0)), (1, .int a1), (3, .long yq6)] → Rp G mr0 N0 mq5 s H locs → k172_6 yq6 mq5 = some (v, m') → W p l e (rmX 287 (ouL v)) s mid args below meth c H locs 0 0 (ZX below G mr0 N0 (ouL v) m' args s) (F0 mid 172 ls []) := by
          intro yq6 mq5 H locs ls hl hR hF
          rw [ek172_6] at hF
          refine lv_aload_n hx hb (dk DX10_oddsFromHere 79 rfl) rfl (lv_at hl 0 rfl) ?_
          refine gX10_23 C hR ob0 rf0_3 (dk DX10_oddsFromHere 80 rfl) ?_
          refine lv_lload_n hx hb (dk DX10_oddsFromHere 81 rfl) rfl (lv_at hl 2 rfl) ?_
          refine lv_aload_n hx hb (dk DX10_oddsFromHere 82 rfl) rfl (lv_at hl 0 rfl) ?_
          refine gX10_37 C hR ob0 rf0_5 (dk DX10_oddsFromHere 83 rfl) ?_
          refine gX10_203 C hR ob16 (dk DX10_oddsFromHere 84 rfl) ?_
          refine lv_iload_n hx hb (dk DX10_oddsFromHere 85 rfl) rfl (lv_at hl 1 rfl) ?_
          obtain ⟨yq9, mq7, hzq8, hF⟩ := bnd_ex hF
          refine r_callVl (As := [.long yq6, .int (gI mq5 16 3), .int a1]) (rest := []) C hR (C_Od_part l hl0 G yq6 (gI mq5 16 3) a1 mq5 _ _ hzq8) (by decide) (by decide) ob2 rfl wX10_306 rfl rfl (Nat.le_of_ble_eq_true rfl) hl.1 ⟨Nat.zero_le _, Nat.zero_le _⟩ (dk DX10_oddsFromHere 86 rfl) (fun H locs hR => ?_)
          cases hF
          exact x_lret C hrt hR (dk DX10_oddsFromHere 87 rfl)
        refine lv_icmp_eq (tgt := 129) hx hb (dk DX10_oddsFromHere 34 rfl) (by decide) (fun c71 => ?_) (fun c71 => ?_)
        · have hF := if_t c71 hF
          refine lv_aload_n hx hb (dk DX10_oddsFromHere 60 rfl) rfl (lv_at hl 0 rfl) ?_
          refine gX10_23 C hR ob0 rf0_3 (dk DX10_oddsFromHere 61 rfl) ?_
          refine lv_aload_n hx hb (dk DX10_oddsFromHere 62 rfl) rfl (lv_at hl 0 rfl) ?_
          refine gX10_37 C hR ob0 rf0_5 (dk DX10_oddsFromHere 63 rfl) ?_
          refine gX10_203 C hR ob16 (dk DX10_oddsFromHere 64 rfl) ?_
          refine lv_aload_n hx hb (dk DX10_oddsFromHere 65 rfl) rfl (lv_at hl 0 rfl) ?_
          refine gX10_37 C hR ob0 rf0_5 (dk DX10_oddsFromHere 66 rfl) ?_
          obtain ⟨xq12, mq10, hzq11, hF⟩ := bnd_ex hF
          refine r_callVi (As := []) (rest := [.int (gI mq2 16 3), .ref (G.2.1 + 2)]) C hR (C_Ma_kind l hl0 G mq2 _ _ hzq11) (by decide) (by decide) ob16 rfl wX10_316 rfl rfl (Nat.le_of_ble_eq_true rfl) hl.1 ⟨Nat.zero_le _, Nat.zero_le _⟩ (dk DX10_oddsFromHere 67 rfl) (fun H locs hR => ?_)
          refine lv_aload_n hx hb (dk DX10_oddsFromHere 68 rfl) rfl (lv_at hl 0 rfl) ?_
          refine gX10_37 C hR ob0 rf0_5 (dk DX10_oddsFromHere 69 rfl) ?_
          obtain ⟨xq15, mq13, hzq14, hF⟩ := bnd_ex hF
          refine r_callVi (As := []) (rest := [.int xq12, .int (gI mq2 16 3), .ref (G.2.1 + 2)]) C hR (C_Ma_spot l hl0 G mq10 _ _ hzq14) (by decide) (by decide) ob16 rfl wX10_319 rfl rfl (Nat.le_of_ble_eq_true rfl) hl.1 ⟨Nat.zero_le _, Nat.zero_le _⟩ (dk DX10_oddsFromHere 70 rfl) (fun H locs hR => ?_)
          refine lv_aload_n hx hb (dk DX10_oddsFromHere 71 rfl) rfl (lv_at hl 0 rfl) ?_
          refine gX10_37 C hR ob0 rf0_5 (dk DX10_oddsFromHere 72 rfl) ?_
          refine lv_aload_n hx hb (dk DX10_oddsFromHere 73 rfl) rfl (lv_at hl 0 rfl) ?_
          refine gX10_37 C hR ob0 rf0_5 (dk DX10_oddsFromHere 74 rfl) ?_
          refine gX10_93 C hR ob16 (dk DX10_oddsFromHere 75 rfl) ?_
          obtain ⟨xq18, mq16, hzq17, hF⟩ := bnd_ex hF
          refine r_callVi (As := [.int (gI mq13 16 0)]) (rest := [.int xq15, .int xq12, .int (gI mq2 16 3), .ref (G.2.1 + 2)]) C hR (C_Ma_leadOf l hl0 G (gI mq13 16 0) mq13 _ _ hzq17) (by decide) (by decide) ob16 rfl wX10_257 rfl rfl (Nat.le_of_ble_eq_true rfl) hl.1 ⟨Nat.zero_le _, Nat.zero_le _⟩ (dk DX10_oddsFromHere 76 rfl) (fun H locs hR => ?_)
          obtain ⟨yq21, mq19, hzq20, hF⟩ := bnd_ex hF
          refine r_callVl (As := [.int (gI mq2 16 3), .int xq12, .int xq15, .int xq18]) (rest := []) C hR (C_Od_waysFrom l hl0 G (gI mq2 16 3) xq12 xq15 xq18 mq16 _ _ hzq20) (by decide) (by decide) ob2 rfl wX10_432 rfl rfl (Nat.le_of_ble_eq_true rfl) hl.1 ⟨Nat.zero_le _, Nat.zero_le _⟩ (dk DX10_oddsFromHere 77 rfl) (fun H locs hR => ?_)
          refine lv_lstore_n (lv' := [(3, .long yq21), (0, .ref (G.2.1 + 0)), (1, .int a1), (2, .int (b2i a2))]) hx hb (dk DX10_oddsFromHere 78 rfl) rfl hl (by decide) rfl (fun ls hl => ?_)
          exact J172 yq21 mq19 _ _ ls (lv_sub hl [1, 2, 0] rfl) hR hF
        · have hF := if_f c71 hF
          refine lv_aload_n hx hb (dk DX10_oddsFromHere 35 rfl) rfl (lv_at hl 0 rfl) ?_
          refine gX10_37 C hR ob0 rf0_5 (dk DX10_oddsFromHere 36 rfl) ?_
          refine gX10_225 C hR ob16 (dk DX10_oddsFromHere 37 rfl) ?_
          refine lv_iconst (v := (2 : Int32)) hx hb (dk DX10_oddsFromHere 38 rfl) (by decide) ?_
          obtain ⟨k125_23, ek125_23, hF⟩ := lt_ex hF
          have J125 : ∀ (yq23 : Int64) (mq22 : Mem) (H : Heap) (locs : List Loc) (ls : Array Slot), lv_has ls 5 [(0, .ref (G.2.1 + 0)), (1, .int a1)] → Rp G mr0 N0 mq22 s H locs → k125_23 yq23 mq22 = some (v, m') → W p l e (rmX 287 (ouL v)) s mid args below meth c H locs 0 0 (ZX below G mr0 N0 (ouL v) m' args s) (F0 mid 125 ls [.long yq23]) := by
            intro yq23 mq22 H locs ls hl hR hF
            rw [ek125_23] at hF
            refine lv_lstore_n (lv' := [(3, .long yq23), (0, .ref (G.2.1 + 0)), (1, .int a1)]) hx hb (dk DX10_oddsFromHere 58 rfl) rfl hl (by decide) rfl (fun ls hl => ?_)
            refine lv_goto (tgt := 172) hx hb (dk DX10_oddsFromHere 59 rfl) (by decide) ?_
            exact J172 yq23 mq22 _ _ ls (lv_sub hl [1, 2, 0] rfl) hR hF
          refine lv_icmp_ne (tgt := 89) hx hb (dk DX10_oddsFromHere 39 rfl) (by decide) (fun c82 => ?_) (fun c82 => ?_)
          · have hF := if_f c82 hF
            refine lv_aload_n hx hb (dk DX10_oddsFromHere 42 rfl) rfl (lv_at hl 0 rfl) ?_
            refine gX10_23 C hR ob0 rf0_3 (dk DX10_oddsFromHere 43 rfl) ?_
            refine lv_aload_n hx hb (dk DX10_oddsFromHere 44 rfl) rfl (lv_at hl 0 rfl) ?_
            refine gX10_37 C hR ob0 rf0_5 (dk DX10_oddsFromHere 45 rfl) ?_
            refine gX10_225 C hR ob16 (dk DX10_oddsFromHere 46 rfl) ?_
            refine lv_aload_n hx hb (dk DX10_oddsFromHere 47 rfl) rfl (lv_at hl 0 rfl) ?_
            refine gX10_37 C hR ob0 rf0_5 (dk DX10_oddsFromHere 48 rfl) ?_
            refine gX10_93 C hR ob16 (dk DX10_oddsFromHere 49 rfl) ?_
            obtain ⟨k115_25, ek115_25, hF⟩ := lt_ex hF
            have J115 : ∀ (zq25 : Bool) (mq24 : Mem) (H : Heap) (locs : List Loc) (ls : Array Slot), lv_has ls 5 [(0, .ref (G.2.1 + 0)), (1, .int a1)] → Rp G mr0 N0 mq24 s H locs → k115_25 zq25 mq24 = some (v, m') → W p l e (rmX 287 (ouL v)) s mid args below meth c H locs 0 0 (ZX below G mr0 N0 (ouL v) m' args s) (F0 mid 115 ls [.int (b2i zq25), .ref (G.2.1 + 2)]) := by
              intro zq25 mq24 H locs ls hl hR hF
              rw [ek115_25] at hF
              refine lv_aload_n hx hb (dk DX10_oddsFromHere 54 rfl) rfl (lv_at hl 0 rfl) ?_
              refine gX10_37 C hR ob0 rf0_5 (dk DX10_oddsFromHere 55 rfl) ?_
              refine gX10_203 C hR ob16 (dk DX10_oddsFromHere 56 rfl) ?_
              obtain ⟨yq28, mq26, hzq27, hF⟩ := bnd_ex hF
              refine r_callVl (As := [.int (b2i zq25), .int (gI mq24 16 3)]) (rest := []) C hR (C_Od_allTo l hl0 G zq25 (gI mq24 16 3) mq24 _ _ hzq27) (by decide) (by decide) ob2 rfl wX10_428 rfl rfl (Nat.le_of_ble_eq_true rfl) hl.1 ⟨Nat.zero_le _, Nat.zero_le _⟩ (dk DX10_oddsFromHere 57 rfl) (fun H locs hR => ?_)
              exact J125 yq28 mq26 _ _ ls (lv_sub hl [0, 1] rfl) hR hF
            refine lv_icmp_ne (tgt := 114) hx hb (dk DX10_oddsFromHere 50 rfl) (by decide) (fun c107 => ?_) (fun c107 => ?_)
            · have hF := if_f c107 hF
              refine lv_iconst (v := (0 : Int32)) hx hb (dk DX10_oddsFromHere 53 rfl) (by decide) ?_
              exact J115 false mq2 _ _ ls (lv_sub hl [0, 1] rfl) hR hF
            · have hF := if_t c107 hF
              refine lv_iconst (v := (1 : Int32)) hx hb (dk DX10_oddsFromHere 51 rfl) (by decide) ?_
              refine lv_goto (tgt := 115) hx hb (dk DX10_oddsFromHere 52 rfl) (by decide) ?_
              exact J115 true mq2 _ _ ls (lv_sub hl [0, 1] rfl) hR hF
          · have hF := if_t c82 hF
            refine lv_lconst (v := (0 : Int64)) hx hb (dk DX10_oddsFromHere 40 rfl) (by decide) ?_
            refine lv_goto (tgt := 125) hx hb (dk DX10_oddsFromHere 41 rfl) (by decide) ?_
            exact J125 (0 : Int64) mq2 _ _ ls (lv_sub hl [0, 1] rfl) hR hF
      · have hF := if_f c28 hF
        exact J31 m0 _ _ ls (lv_sub hl [] rfl) hR hF
  · have hF := if_t c8 hF
    cases hF
    exact r_throwW (d := 287) (k := 0) C hex hR tX10_239 strm_X10_426 (by decide) (Nat.le_of_ble_eq_true rfl) hl.1 (dk DX10_oddsFromHere 5 rfl) (dk DX10_oddsFromHere 6 rfl) (dk DX10_oddsFromHere 7 rfl) (dk DX10_oddsFromHere 8 rfl) (dk DX10_oddsFromHere 9 rfl)
set_option maxHeartbeats 4000000 in
set_option maxRecDepth 100000 in
theorem C_T_blind (l : Launch) (hl0 : l.stackTraces = false) (G : GG) (a1 : Int32) (m0 : Mem) (v : Nat ⊕ Int64) (m' : Mem) (hF : F_T_blind a1 m0 = some (v, m')) : CtX l G mr0 N0 yX10_blind cX10_blind 2 (some .long) 288 [.ref (G.2.1 + 0), .int a1] m0 (ouL v) m' := by
  refine CtX_of hl0 (by decide) (Nat.le_of_ble_eq_true rfl) ?_
  intro p e s mid args below meth c ls C hrt hex hl hR
  have hx := C.1.1
  have hb := C.1.2.1
  have hl : lv_has ls 2 [(0, .ref (G.2.1 + 0)), (1, .int a1)] := hl
  unfold F_T_blind at hF
  refine lv_aload_n hx hb (dk DX10_blind 0 rfl) rfl (lv_at hl 0 rfl) ?_
  refine lv_iload_n hx hb (dk DX10_blind 1 rfl) rfl (lv_at hl 1 rfl) ?_
  refine lv_iconst (v := (1 : Int32)) hx hb (dk DX10_blind 2 rfl) (by decide) ?_
  rcases bndX_ex hF with ⟨ke, mq1, hzq2, hF⟩ | ⟨yq3, mq1, hzq2, hF⟩
  · have hM := C_T_oddsFromHere l hl0 G a1 true m0 (Sum.inl ke) mq1 hzq2
    rw [show ouL (Sum.inl ke) = (Sum.inl ke : Ou) from rfl] at hM
    cases hF
    exact x_passV (d := 288) (k := ke) (As := [.int a1, .int (b2i true)]) (rest := []) C hex hR hM (by decide) (by decide) ob0 rfl wX10_298 rfl rfl (Nat.le_of_ble_eq_true rfl) hl.1 (dk DX10_blind 3 rfl)
  · have hM := C_T_oddsFromHere l hl0 G a1 true m0 (Sum.inr yq3) mq1 hzq2
    rw [show ouL (Sum.inr yq3) = (Sum.inr (some (.long yq3)) : Ou) from rfl] at hM
    refine x_callVl (As := [.int a1, .int (b2i true)]) (rest := []) C hR hM (by decide) (by decide) ob0 rfl wX10_298 rfl rfl (Nat.le_of_ble_eq_true rfl) hl.1 ⟨Nat.zero_le _, Nat.zero_le _⟩ (dk DX10_blind 3 rfl) (fun H locs hR => ?_)
    cases hF
    exact x_lret C hrt hR (dk DX10_blind 4 rfl)
set_option maxHeartbeats 4000000 in
set_option maxRecDepth 100000 in
theorem C_Bk_cell (l : Launch) (hl0 : l.stackTraces = false) (G : GG) (a1 : Int32) (a2 : Int32) (m0 : Mem) (v : Int32) (m' : Mem) (hF : F_Bk_cell a1 a2 m0 = some (v, m')) : Ct l G mr0 N0 yX0_cell cX0_cell 4 (some .int) 1 [.ref (G.2.1 + 12), .int a1, .int a2] m0 (some (.int v)) m' := by
  refine Ct_of hl0 (by decide) (Nat.le_of_ble_eq_true rfl) ?_
  intro p e s mid args below meth c ls C hrt hl hR
  have hx := C.1.1
  have hb := C.1.2.1
  have hl : lv_has ls 4 [(0, .ref (G.2.1 + 12)), (1, .int a1), (2, .int a2)] := hl
  unfold F_Bk_cell at hF
  refine lv_iload_n hx hb (dk DX0_cell 0 rfl) rfl (lv_at hl 1 rfl) ?_
  refine lv_iconst (v := (3 : Int32)) hx hb (dk DX0_cell 1 rfl) (by decide) ?_
  refine lv_imul hx hb (dk DX0_cell 2 rfl) ?_
  refine lv_iload_n hx hb (dk DX0_cell 3 rfl) rfl (lv_at hl 2 rfl) ?_
  refine lv_iadd hx hb (dk DX0_cell 4 rfl) ?_
  refine lv_topi (fun xq1 exq1 => ?_)
  have hF := lt_at exq1 hF
  refine lv_istore_n (lv' := [(3, .int xq1), (0, .ref (G.2.1 + 12)), (1, .int a1), (2, .int a2)]) hx hb (dk DX0_cell 5 rfl) rfl hl (by decide) rfl (fun ls hl => ?_)
  refine lv_iload_n hx hb (dk DX0_cell 6 rfl) rfl (lv_at hl 0 rfl) ?_
  refine lv_if_lt (tgt := 17) hx hb (dk DX0_cell 7 rfl) (by decide) (fun c7 => ?_) (fun c7 => ?_)
  · have hF := if_t c7 hF
    refine lv_iconst (v := (0 : Int32)) hx hb (dk DX0_cell 11 rfl) (by decide) ?_
    refine lv_goto (tgt := 27) hx hb (dk DX0_cell 12 rfl) (by decide) ?_
    cases hF
    exact r_iret C hrt hR (dk DX0_cell 17 rfl)
  · have hF := if_f c7 hF
    refine lv_iload_n hx hb (dk DX0_cell 8 rfl) rfl (lv_at hl 0 rfl) ?_
    refine lv_sipush (v := (180 : Int32)) hx hb (dk DX0_cell 9 rfl) (by decide) ?_
    refine lv_icmp_lt (tgt := 21) hx hb (dk DX0_cell 10 rfl) (by decide) (fun c14 => ?_) (fun c14 => ?_)
    · have hF := if_t c14 hF
      refine lv_aload_n hx hb (dk DX0_cell 13 rfl) rfl (lv_at hl 1 rfl) ?_
      refine gX0_15 C hR ob12 rf12_1 (dk DX0_cell 14 rfl) ?_
      refine lv_iload_n hx hb (dk DX0_cell 15 rfl) rfl (lv_at hl 0 rfl) ?_
      obtain ⟨hq2, hF⟩ := ckB_ex hF
      refine r_iald C hR ob13 hq2 (dk DX0_cell 16 rfl) ?_
      refine lv_topi (fun xq3 exq3 => ?_)
      have hF := lt_at exq3 hF
      cases hF
      exact r_iret C hrt hR (dk DX0_cell 17 rfl)
    · have hF := if_f c14 hF
      refine lv_iconst (v := (0 : Int32)) hx hb (dk DX0_cell 11 rfl) (by decide) ?_
      refine lv_goto (tgt := 27) hx hb (dk DX0_cell 12 rfl) (by decide) ?_
      cases hF
      exact r_iret C hrt hR (dk DX0_cell 17 rfl)
set_option maxHeartbeats 4000000 in
set_option maxRecDepth 100000 in
theorem C_Bk_isSo (l : Launch) (hl0 : l.stackTraces = false) (G : GG) (a1 : Int32) (a2 : Int32) (m0 : Mem) (v : Bool) (m' : Mem) (hF : F_Bk_isSo a1 a2 m0 = some (v, m')) : Ct l G mr0 N0 yX0_isSo cX0_isSo 6 (some .boolean) 2 [.ref (G.2.1 + 12), .int a1, .int a2] m0 (some (.int (b2i v))) m' := by
  refine Ct_of hl0 (by decide) (Nat.le_of_ble_eq_true rfl) ?_
  intro p e s mid args below meth c ls C hrt hl hR
  have hx := C.1.1
  have hb := C.1.2.1
  have hl : lv_has ls 6 [(0, .ref (G.2.1 + 12)), (1, .int a1), (2, .int a2)] := hl
  unfold F_Bk_isSo at hF
  refine lv_aload_n hx hb (dk DX0_isSo 0 rfl) rfl (lv_at hl 0 rfl) ?_
  refine lv_iload_n hx hb (dk DX0_isSo 1 rfl) rfl (lv_at hl 1 rfl) ?_
  refine lv_iconst (v := (0 : Int32)) hx hb (dk DX0_isSo 2 rfl) (by decide) ?_
  obtain ⟨xq3, mq1, hzq2, hF⟩ := bnd_ex hF
  refine r_callVi (As := [.int a1, .int (0 : Int32)]) (rest := []) C hR (C_Bk_cell l hl0 G a1 (0 : Int32) m0 _ _ hzq2) (by decide) (by decide) ob12 rfl wX0_29 rfl rfl (Nat.le_of_ble_eq_true rfl) hl.1 ⟨Nat.zero_le _, Nat.zero_le _⟩ (dk DX0_isSo 3 rfl) (fun H locs hR => ?_)
  refine lv_istore_n (lv' := [(3, .int xq3), (0, .ref (G.2.1 + 12)), (1, .int a1), (2, .int a2)]) hx hb (dk DX0_isSo 4 rfl) rfl hl (by decide) rfl (fun ls hl => ?_)
  refine lv_aload_n hx hb (dk DX0_isSo 5 rfl) rfl (lv_at hl 1 rfl) ?_
  refine lv_iload_n hx hb (dk DX0_isSo 6 rfl) rfl (lv_at hl 2 rfl) ?_
  refine lv_iconst (v := (1 : Int32)) hx hb (dk DX0_isSo 7 rfl) (by decide) ?_
  obtain ⟨xq6, mq4, hzq5, hF⟩ := bnd_ex hF
  refine r_callVi (As := [.int a1, .int (1 : Int32)]) (rest := []) C hR (C_Bk_cell l hl0 G a1 (1 : Int32) mq1 _ _ hzq5) (by decide) (by decide) ob12 rfl wX0_29 rfl rfl (Nat.le_of_ble_eq_true rfl) hl.1 ⟨Nat.zero_le _, Nat.zero_le _⟩ (dk DX0_isSo 8 rfl) (fun H locs hR => ?_)
  refine lv_istore (lv' := [(4, .int xq6), (3, .int xq3), (0, .ref (G.2.1 + 12)), (1, .int a1), (2, .int a2)]) hx hb (dk DX0_isSo 9 rfl) hl (by decide) rfl (fun ls hl => ?_)
  refine lv_aload_n hx hb (dk DX0_isSo 10 rfl) rfl (lv_at hl 2 rfl) ?_
  refine lv_iload_n hx hb (dk DX0_isSo 11 rfl) rfl (lv_at hl 3 rfl) ?_
  refine lv_iconst (v := (2 : Int32)) hx hb (dk DX0_isSo 12 rfl) (by decide) ?_
  obtain ⟨xq9, mq7, hzq8, hF⟩ := bnd_ex hF
  refine r_callVi (As := [.int a1, .int (2 : Int32)]) (rest := []) C hR (C_Bk_cell l hl0 G a1 (2 : Int32) mq4 _ _ hzq8) (by decide) (by decide) ob12 rfl wX0_29 rfl rfl (Nat.le_of_ble_eq_true rfl) hl.1 ⟨Nat.zero_le _, Nat.zero_le _⟩ (dk DX0_isSo 13 rfl) (fun H locs hR => ?_)
  refine lv_istore (lv' := [(5, .int xq9), (4, .int xq6), (3, .int xq3), (0, .ref (G.2.1 + 12)), (1, .int a1), (2, .int a2)]) hx hb (dk DX0_isSo 14 rfl) hl (by decide) rfl (fun ls hl => ?_)
  refine lv_iload_n hx hb (dk DX0_isSo 15 rfl) rfl (lv_at hl 5 rfl) ?_
  by_cases d1 : a2 = (1 : Int32)
  · have hF := if_t d1 hF
    refine lv_tableIn (tgt := 60) hx hb (dk DX0_isSo 16 rfl) (by rw [d1]; decide) (by rw [d1]; decide) (by rw [d1]; rfl) (by decide) ?_
    refine lv_iload hx hb (dk DX0_isSo 17 rfl) (lv_at hl 1 rfl) ?_
    refine lv_iload_n hx hb (dk DX0_isSo 18 rfl) rfl (lv_at hl 2 rfl) ?_
    refine lv_icmp_ne (tgt := 70) hx hb (dk DX0_isSo 19 rfl) (by decide) (fun c63 => ?_) (fun c63 => ?_)
    · have hF := if_f c63 hF
      refine lv_iconst (v := (0 : Int32)) hx hb (dk DX0_isSo 22 rfl) (by decide) ?_
      cases hF
      exact r_zret C hrt hR (dk DX0_isSo 23 rfl)
    · have hF := if_t c63 hF
      refine lv_iconst (v := (1 : Int32)) hx hb (dk DX0_isSo 20 rfl) (by decide) ?_
      refine lv_goto (tgt := 71) hx hb (dk DX0_isSo 21 rfl) (by decide) ?_
      cases hF
      exact r_zret C hrt hR (dk DX0_isSo 23 rfl)
  · have hF := if_f d1 hF
    by_cases d2 : a2 = (2 : Int32)
    · have hF := if_t d2 hF
      refine lv_tableIn (tgt := 72) hx hb (dk DX0_isSo 16 rfl) (by rw [d2]; decide) (by rw [d2]; decide) (by rw [d2]; rfl) (by decide) ?_
      refine lv_iload hx hb (dk DX0_isSo 24 rfl) (lv_at hl 1 rfl) ?_
      refine lv_iload_n hx hb (dk DX0_isSo 25 rfl) rfl (lv_at hl 2 rfl) ?_
      refine lv_icmp_ne (tgt := 88) hx hb (dk DX0_isSo 26 rfl) (by decide) (fun c75 => ?_) (fun c75 => ?_)
      · have hF := if_f c75 hF
        refine lv_iconst (v := (0 : Int32)) hx hb (dk DX0_isSo 32 rfl) (by decide) ?_
        cases hF
        exact r_zret C hrt hR (dk DX0_isSo 33 rfl)
      · have hF := if_t c75 hF
        refine lv_iload hx hb (dk DX0_isSo 27 rfl) (lv_at hl 0 rfl) ?_
        refine lv_iload_n hx hb (dk DX0_isSo 28 rfl) rfl (lv_at hl 2 rfl) ?_
        refine lv_icmp_ne (tgt := 88) hx hb (dk DX0_isSo 29 rfl) (by decide) (fun c81 => ?_) (fun c81 => ?_)
        · have hF := if_f c81 hF
          refine lv_iconst (v := (0 : Int32)) hx hb (dk DX0_isSo 32 rfl) (by decide) ?_
          cases hF
          exact r_zret C hrt hR (dk DX0_isSo 33 rfl)
        · have hF := if_t c81 hF
          refine lv_iconst (v := (1 : Int32)) hx hb (dk DX0_isSo 30 rfl) (by decide) ?_
          refine lv_goto (tgt := 89) hx hb (dk DX0_isSo 31 rfl) (by decide) ?_
          cases hF
          exact r_zret C hrt hR (dk DX0_isSo 33 rfl)
    · have hF := if_f d2 hF
      by_cases d3 : a2 = (3 : Int32)
      · have hF := if_t d3 hF
        refine lv_tableIn (tgt := 90) hx hb (dk DX0_isSo 16 rfl) (by rw [d3]; decide) (by rw [d3]; decide) (by rw [d3]; rfl) (by decide) ?_
        refine lv_iload hx hb (dk DX0_isSo 34 rfl) (lv_at hl 0 rfl) ?_
        refine lv_iload hx hb (dk DX0_isSo 35 rfl) (lv_at hl 1 rfl) ?_
        refine lv_icmp_ne (tgt := 101) hx hb (dk DX0_isSo 36 rfl) (by decide) (fun c94 => ?_) (fun c94 => ?_)
        · have hF := if_f c94 hF
          refine lv_iconst (v := (0 : Int32)) hx hb (dk DX0_isSo 39 rfl) (by decide) ?_
          cases hF
          exact r_zret C hrt hR (dk DX0_isSo 40 rfl)
        · have hF := if_t c94 hF
          refine lv_iconst (v := (1 : Int32)) hx hb (dk DX0_isSo 37 rfl) (by decide) ?_
          refine lv_goto (tgt := 102) hx hb (dk DX0_isSo 38 rfl) (by decide) ?_
          cases hF
          exact r_zret C hrt hR (dk DX0_isSo 40 rfl)
      · have hF := if_f d3 hF
        by_cases d4 : a2 = (4 : Int32)
        · have hF := if_t d4 hF
          refine lv_tableIn (tgt := 103) hx hb (dk DX0_isSo 16 rfl) (by rw [d4]; decide) (by rw [d4]; decide) (by rw [d4]; rfl) (by decide) ?_
          refine lv_iload hx hb (dk DX0_isSo 41 rfl) (lv_at hl 0 rfl) ?_
          refine lv_iload_n hx hb (dk DX0_isSo 42 rfl) rfl (lv_at hl 2 rfl) ?_
          refine lv_icmp_ne (tgt := 113) hx hb (dk DX0_isSo 43 rfl) (by decide) (fun c106 => ?_) (fun c106 => ?_)
          · have hF := if_f c106 hF
            refine lv_iconst (v := (0 : Int32)) hx hb (dk DX0_isSo 46 rfl) (by decide) ?_
            cases hF
            exact r_zret C hrt hR (dk DX0_isSo 47 rfl)
          · have hF := if_t c106 hF
            refine lv_iconst (v := (1 : Int32)) hx hb (dk DX0_isSo 44 rfl) (by decide) ?_
            refine lv_goto (tgt := 114) hx hb (dk DX0_isSo 45 rfl) (by decide) ?_
            cases hF
            exact r_zret C hrt hR (dk DX0_isSo 47 rfl)
        · have hF := if_f d4 hF
          by_cases d5 : a2 = (5 : Int32)
          · have hF := if_t d5 hF
            refine lv_tableIn (tgt := 115) hx hb (dk DX0_isSo 16 rfl) (by rw [d5]; decide) (by rw [d5]; decide) (by rw [d5]; rfl) (by decide) ?_
            refine lv_iload hx hb (dk DX0_isSo 48 rfl) (lv_at hl 0 rfl) ?_
            refine lv_iconst (v := (2 : Int32)) hx hb (dk DX0_isSo 49 rfl) (by decide) ?_
            refine lv_icmp_ne (tgt := 125) hx hb (dk DX0_isSo 50 rfl) (by decide) (fun c118 => ?_) (fun c118 => ?_)
            · have hF := if_f c118 hF
              refine lv_iconst (v := (0 : Int32)) hx hb (dk DX0_isSo 53 rfl) (by decide) ?_
              cases hF
              exact r_zret C hrt hR (dk DX0_isSo 54 rfl)
            · have hF := if_t c118 hF
              refine lv_iconst (v := (1 : Int32)) hx hb (dk DX0_isSo 51 rfl) (by decide) ?_
              refine lv_goto (tgt := 126) hx hb (dk DX0_isSo 52 rfl) (by decide) ?_
              cases hF
              exact r_zret C hrt hR (dk DX0_isSo 54 rfl)
          · have hF := if_f d5 hF
            have n1 := i32_ne d1 (z := 1) rfl
            have n2 := i32_ne d2 (z := 2) rfl
            have n3 := i32_ne d3 (z := 3) rfl
            have n4 := i32_ne d4 (z := 4) rfl
            have n5 := i32_ne d5 (z := 5) rfl
            refine lv_tableOut (tgt := 127) hx hb (dk DX0_isSo 16 rfl) (by omega) (by decide) ?_
            refine lv_iconst (v := (1 : Int32)) hx hb (dk DX0_isSo 55 rfl) (by decide) ?_
            cases hF
            exact r_zret C hrt hR (dk DX0_isSo 56 rfl)
set_option maxHeartbeats 4000000 in
set_option maxRecDepth 100000 in
theorem C_Bk_tally (l : Launch) (hl0 : l.stackTraces = false) (G : GG) (a1 : Int32) (m0 : Mem) (v : Int32) (m' : Mem) (hF : F_Bk_tally a1 m0 = some (v, m')) : Ct l G mr0 N0 yX0_tally cX0_tally 4 (some .int) 3 [.ref (G.2.1 + 12), .int a1] m0 (some (.int v)) m' := by
  refine Ct_of hl0 (by decide) (Nat.le_of_ble_eq_true rfl) ?_
  intro p e s mid args below meth c ls C hrt hl hR
  have hx := C.1.1
  have hb := C.1.2.1
  have hl : lv_has ls 4 [(0, .ref (G.2.1 + 12)), (1, .int a1)] := hl
  unfold F_Bk_tally at hF
  refine lv_iconst (v := (0 : Int32)) hx hb (dk DX0_tally 0 rfl) (by decide) ?_
  refine lv_istore_n (lv' := [(2, .int (0 : Int32)), (0, .ref (G.2.1 + 12)), (1, .int a1)]) hx hb (dk DX0_tally 1 rfl) rfl hl (by decide) rfl (fun ls hl => ?_)
  refine lv_iconst (v := (0 : Int32)) hx hb (dk DX0_tally 2 rfl) (by decide) ?_
  refine lv_istore_n (lv' := [(3, .int (0 : Int32)), (2, .int (0 : Int32)), (0, .ref (G.2.1 + 12)), (1, .int a1)]) hx hb (dk DX0_tally 3 rfl) rfl hl (by decide) rfl (fun ls hl => ?_)
  have L4 : ∀ (nf : Nat) (xq2 : Int32) (xq3 : Int32) (mq1 : Mem) (H : Heap) (locs : List Loc) (ls : Array Slot), lv_has ls 4 [(0, .ref (G.2.1 + 12)), (1, .int a1), (2, .int xq2), (3, .int xq3)] → Rp G mr0 N0 mq1 s H locs → F_Bk_tally_L4 a1 nf xq2 xq3 mq1 = some (v, m') → W p l e (rmD 3) s mid args below meth c H locs 0 0 (MQ below (QR G mr0 N0 (some (.int v)) m') args s 0 0 (fun q => G.2.1 ≤ q)) (F0 mid 4 ls []) := by
    intro nf
    induction nf with
    | zero =>
      intro xq2 xq3 mq1 H locs ls hl hR hF
      rw [F_Bk_tally_L4] at hF
      cases hF
    | succ nf ihq5 =>
      intro xq2 xq3 mq1 H locs ls hl hR hF
      rw [F_Bk_tally_L4] at hF
      refine lv_iload_n hx hb (dk DX0_tally 4 rfl) rfl (lv_at hl 3 rfl) ?_
      refine lv_aload_n hx hb (dk DX0_tally 5 rfl) rfl (lv_at hl 0 rfl) ?_
      refine gX0_9 C hR ob12 (dk DX0_tally 6 rfl) ?_
      refine lv_icmp_ge (tgt := 35) hx hb (dk DX0_tally 7 rfl) (by decide) (fun c9 => ?_) (fun c9 => ?_)
      · have hF := if_t c9 hF
        refine lv_iload_n hx hb (dk DX0_tally 21 rfl) rfl (lv_at hl 2 rfl) ?_
        cases hF
        exact r_iret C hrt hR (dk DX0_tally 22 rfl)
      · have hF := if_f c9 hF
        refine lv_iload_n hx hb (dk DX0_tally 8 rfl) rfl (lv_at hl 2 rfl) ?_
        refine lv_aload_n hx hb (dk DX0_tally 9 rfl) rfl (lv_at hl 0 rfl) ?_
        refine lv_iload_n hx hb (dk DX0_tally 10 rfl) rfl (lv_at hl 3 rfl) ?_
        refine lv_iload_n hx hb (dk DX0_tally 11 rfl) rfl (lv_at hl 1 rfl) ?_
        obtain ⟨zq8, mq6, hzq7, hF⟩ := bnd_ex hF
        refine r_callVi (As := [.int xq3, .int a1]) (rest := [.int xq2]) C hR (C_Bk_isSo l hl0 G xq3 a1 mq1 _ _ hzq7) (by decide) (by decide) ob12 rfl wX0_19 rfl rfl (Nat.le_of_ble_eq_true rfl) hl.1 ⟨Nat.zero_le _, Nat.zero_le _⟩ (dk DX0_tally 12 rfl) (fun H locs hR => ?_)
        obtain ⟨k27_10, ek27_10, hF⟩ := lt_ex hF
        have J27 : ∀ (zq10 : Bool) (mq9 : Mem) (H : Heap) (locs : List Loc) (ls : Array Slot), lv_has ls 4 [(0, .ref (G.2.1 + 12)), (1, .int a1), (3, .int xq3)] → Rp G mr0 N0 mq9 s H locs → k27_10 zq10 mq9 = some (v, m') → W p l e (rmD 3) s mid args below meth c H locs 0 0 (MQ below (QR G mr0 N0 (some (.int v)) m') args s 0 0 (fun q => G.2.1 ≤ q)) (F0 mid 27 ls [.int (b2i zq10), .int xq2]) := by
          intro zq10 mq9 H locs ls hl hR hF
          rw [ek27_10] at hF
          refine lv_iadd hx hb (dk DX0_tally 17 rfl) ?_
          refine lv_topi (fun xq11 exq11 => ?_)
          have hF := lt_at exq11 hF
          refine lv_istore_n (lv' := [(2, .int xq11), (0, .ref (G.2.1 + 12)), (1, .int a1), (3, .int xq3)]) hx hb (dk DX0_tally 18 rfl) rfl hl (by decide) rfl (fun ls hl => ?_)
          obtain ⟨xq12, exq12, hF⟩ := lt_ex hF
          refine lv_iinc (v := xq12) (lv' := [(3, .int xq12), (2, .int xq11), (0, .ref (G.2.1 + 12)), (1, .int a1)]) hx hb (dk DX0_tally 19 rfl) hl (k := 3) rfl (by rw [exq12]; rfl) (by decide) rfl (fun ls hl => ?_)
          refine lv_goto (tgt := 4) hx hb (dk DX0_tally 20 rfl) (by decide) ?_
          exact ihq5 xq11 xq12 mq9 _ _ ls (lv_sub hl [2, 3, 1, 0] rfl) hR hF
        refine z_ifeq (tgt := 26) hx hb (dk DX0_tally 13 rfl) (by decide) (fun c19 => ?_) (fun c19 => ?_)
        · have hF := if_f c19 hF
          refine lv_iconst (v := (0 : Int32)) hx hb (dk DX0_tally 16 rfl) (by decide) ?_
          exact J27 false mq6 _ _ ls (lv_sub hl [0, 1, 3] rfl) hR hF
        · have hF := if_t c19 hF
          refine lv_iconst (v := (1 : Int32)) hx hb (dk DX0_tally 14 rfl) (by decide) ?_
          refine lv_goto (tgt := 27) hx hb (dk DX0_tally 15 rfl) (by decide) ?_
          exact J27 true mq6 _ _ ls (lv_sub hl [0, 1, 3] rfl) hR hF
  exact L4 1000000 (0 : Int32) (0 : Int32) m0 _ _ ls (lv_sub hl [2, 3, 1, 0] rfl) hR hF
set_option maxHeartbeats 4000000 in
set_option maxRecDepth 100000 in
theorem C_T_book (l : Launch) (hl0 : l.stackTraces = false) (G : GG) (a1 : Int32) (m0 : Mem) (v : Nat ⊕ Int32) (m' : Mem) (hF : F_T_book a1 m0 = some (v, m')) : CtX l G mr0 N0 yX10_book cX10_book 2 (some .int) 8 [.ref (G.2.1 + 0), .int a1] m0 (ouI v) m' := by
  refine CtX_of hl0 (by decide) (Nat.le_of_ble_eq_true rfl) ?_
  intro p e s mid args below meth c ls C hrt hex hl hR
  have hx := C.1.1
  have hb := C.1.2.1
  have hl : lv_has ls 2 [(0, .ref (G.2.1 + 0)), (1, .int a1)] := hl
  unfold F_T_book at hF
  refine lv_iload_n hx hb (dk DX10_book 0 rfl) rfl (lv_at hl 1 rfl) ?_
  obtain ⟨k9_1, ek9_1, hF⟩ := lt_ex hF
  have J9 : ∀ (mq1 : Mem) (H : Heap) (locs : List Loc) (ls : Array Slot), lv_has ls 2 [] → Rp G mr0 N0 mq1 s H locs → k9_1  mq1 = some (v, m') → W p l e (rmX 8 (ouI v)) s mid args below meth c H locs 0 0 (ZX below G mr0 N0 (ouI v) m' args s) (F0 mid 9 ls []) := by
    intro  mq1 H locs ls hl hR hF
    rw [ek9_1] at hF
    cases hF
    exact r_throw (d := 8) (k := 4) C hex hR tX10_186 strm_X10_184 (by decide) (Nat.le_of_ble_eq_true rfl) hl.1 (dk DX10_book 5 rfl) (dk DX10_book 6 rfl) (dk DX10_book 7 rfl) (dk DX10_book 8 rfl) (dk DX10_book 9 rfl)
  refine lv_if_lt (tgt := 9) hx hb (dk DX10_book 1 rfl) (by decide) (fun c1 => ?_) (fun c1 => ?_)
  · have hF := if_t c1 hF
    exact J9 m0 _ _ ls (lv_sub hl [] rfl) hR hF
  · have hF := if_f c1 hF
    refine lv_iload_n hx hb (dk DX10_book 2 rfl) rfl (lv_at hl 1 rfl) ?_
    refine lv_iconst (v := (5 : Int32)) hx hb (dk DX10_book 3 rfl) (by decide) ?_
    refine lv_icmp_le (tgt := 19) hx hb (dk DX10_book 4 rfl) (by decide) (fun c6 => ?_) (fun c6 => ?_)
    · have hF := if_t c6 hF
      refine lv_aload_n hx hb (dk DX10_book 10 rfl) rfl (lv_at hl 0 rfl) ?_
      refine gX10_31 C hR ob0 rf0_4 (dk DX10_book 11 rfl) ?_
      refine gX10_96 C hR ob3 rf3_12 (dk DX10_book 12 rfl) ?_
      refine lv_iload_n hx hb (dk DX10_book 13 rfl) rfl (lv_at hl 1 rfl) ?_
      obtain ⟨xq4, mq2, hzq3, hF⟩ := bnd_ex hF
      refine r_callVi (As := [.int a1]) (rest := []) C hR (C_Bk_tally l hl0 G a1 m0 _ _ hzq3) (by decide) (by decide) ob12 rfl wX10_380 rfl rfl (Nat.le_of_ble_eq_true rfl) hl.1 ⟨Nat.zero_le _, Nat.zero_le _⟩ (dk DX10_book 14 rfl) (fun H locs hR => ?_)
      cases hF
      exact x_iret C hrt hR (dk DX10_book 15 rfl)
    · have hF := if_f c6 hF
      exact J9 m0 _ _ ls (lv_sub hl [] rfl) hR hF
set_option maxHeartbeats 4000000 in
set_option maxRecDepth 100000 in
theorem C_Ma_batting (l : Launch) (hl0 : l.stackTraces = false) (G : GG) (m0 : Mem) (v : Int32) (m' : Mem) (hF : F_Ma_batting m0 = some (v, m')) : Ct l G mr0 N0 yX5_batting cX5_batting 1 (some .int) 3 [.ref (G.2.1 + 16)] m0 (some (.int v)) m' := by
  refine Ct_of hl0 (by decide) (Nat.le_of_ble_eq_true rfl) ?_
  intro p e s mid args below meth c ls C hrt hl hR
  have hx := C.1.1
  have hb := C.1.2.1
  have hl : lv_has ls 1 [(0, .ref (G.2.1 + 16))] := hl
  unfold F_Ma_batting at hF
  refine lv_aload_n hx hb (dk DX5_batting 0 rfl) rfl (lv_at hl 0 rfl) ?_
  obtain ⟨xq3, mq1, hzq2, hF⟩ := bnd_ex hF
  refine r_callVi (As := []) (rest := []) C hR (C_Ma_kind l hl0 G m0 _ _ hzq2) (by decide) (by decide) ob16 rfl wX5_53 rfl rfl (Nat.le_of_ble_eq_true rfl) hl.1 ⟨Nat.zero_le _, Nat.zero_le _⟩ (dk DX5_batting 1 rfl) (fun H locs hR => ?_)
  obtain ⟨zq6, mq4, hzq5, hF⟩ := bnd_ex hF
  refine r_callSi (As := [.int xq3]) (rest := []) C hR (C_Od_firstBats l hl0 G xq3 mq1 _ _ hzq5) (by decide) (by decide) wX5_57 rfl rfl (Nat.le_of_ble_eq_true rfl) hl.1 ⟨Nat.zero_le _, Nat.zero_le _⟩ (dk DX5_batting 2 rfl) (fun H locs hR => ?_)
  refine z_ifeq (tgt := 17) hx hb (dk DX5_batting 3 rfl) (by decide) (fun c7 => ?_) (fun c7 => ?_)
  · have hF := if_f c7 hF
    refine lv_iconst (v := (1 : Int32)) hx hb (dk DX5_batting 7 rfl) (by decide) ?_
    refine lv_aload_n hx hb (dk DX5_batting 8 rfl) rfl (lv_at hl 0 rfl) ?_
    refine gX5_9 C hR ob16 (dk DX5_batting 9 rfl) ?_
    refine lv_isub hx hb (dk DX5_batting 10 rfl) ?_
    cases hF
    exact r_iret C hrt hR (dk DX5_batting 11 rfl)
  · have hF := if_t c7 hF
    refine lv_aload_n hx hb (dk DX5_batting 4 rfl) rfl (lv_at hl 0 rfl) ?_
    refine gX5_9 C hR ob16 (dk DX5_batting 5 rfl) ?_
    refine lv_goto (tgt := 23) hx hb (dk DX5_batting 6 rfl) (by decide) ?_
    cases hF
    exact r_iret C hrt hR (dk DX5_batting 11 rfl)
set_option maxHeartbeats 4000000 in
set_option maxRecDepth 100000 in
theorem C_Ma_setLog (l : Launch) (hl0 : l.stackTraces = false) (G : GG) (a1 : Int32) (a2 : Int32) (m0 : Mem) (v : Unit) (m' : Mem) (hF : F_Ma_setLog a1 a2 m0 = some (v, m')) : Ct l G mr0 N0 yX5_setLog cX5_setLog 4 none 1 [.ref (G.2.1 + 16), .int a1, .int a2] m0 none m' := by
  refine Ct_of hl0 (by decide) (Nat.le_of_ble_eq_true rfl) ?_
  intro p e s mid args below meth c ls C hrt hl hR
  have hx := C.1.1
  have hb := C.1.2.1
  have hl : lv_has ls 4 [(0, .ref (G.2.1 + 16)), (1, .int a1), (2, .int a2)] := hl
  unfold F_Ma_setLog at hF
  refine lv_aload_n hx hb (dk DX5_setLog 0 rfl) rfl (lv_at hl 0 rfl) ?_
  refine gX5_21 C hR ob16 (dk DX5_setLog 1 rfl) ?_
  refine lv_bipush (v := (7 : Int32)) hx hb (dk DX5_setLog 2 rfl) (by decide) ?_
  refine lv_imul hx hb (dk DX5_setLog 3 rfl) ?_
  refine lv_iload_n hx hb (dk DX5_setLog 4 rfl) rfl (lv_at hl 1 rfl) ?_
  refine lv_iadd hx hb (dk DX5_setLog 5 rfl) ?_
  refine lv_topi (fun xq1 exq1 => ?_)
  have hF := lt_at exq1 hF
  refine lv_istore_n (lv' := [(3, .int xq1), (0, .ref (G.2.1 + 16)), (1, .int a1), (2, .int a2)]) hx hb (dk DX5_setLog 6 rfl) rfl hl (by decide) rfl (fun ls hl => ?_)
  refine lv_iload_n hx hb (dk DX5_setLog 7 rfl) rfl (lv_at hl 0 rfl) ?_
  refine lv_if_lt (tgt := 27) hx hb (dk DX5_setLog 8 rfl) (by decide) (fun c11 => ?_) (fun c11 => ?_)
  · have hF := if_t c11 hF
    cases hF
    exact r_vret C hrt hR (dk DX5_setLog 17 rfl)
  · have hF := if_f c11 hF
    refine lv_iload_n hx hb (dk DX5_setLog 9 rfl) rfl (lv_at hl 0 rfl) ?_
    refine lv_bipush (v := (63 : Int32)) hx hb (dk DX5_setLog 10 rfl) (by decide) ?_
    refine lv_icmp_ge (tgt := 27) hx hb (dk DX5_setLog 11 rfl) (by decide) (fun c17 => ?_) (fun c17 => ?_)
    · have hF := if_t c17 hF
      cases hF
      exact r_vret C hrt hR (dk DX5_setLog 17 rfl)
    · have hF := if_f c17 hF
      refine lv_aload_n hx hb (dk DX5_setLog 12 rfl) rfl (lv_at hl 1 rfl) ?_
      refine gX5_43 C hR ob16 rf16_10 (dk DX5_setLog 13 rfl) ?_
      refine lv_iload_n hx hb (dk DX5_setLog 14 rfl) rfl (lv_at hl 0 rfl) ?_
      refine lv_iload_n hx hb (dk DX5_setLog 15 rfl) rfl (lv_at hl 3 rfl) ?_
      obtain ⟨hq3, hF⟩ := ckB_ex hF
      refine r_iast C hR ob17 hq3 (dk DX5_setLog 16 rfl) (fun H locs hR => ?_)
      obtain ⟨mq2, emq2, hF⟩ := lt_ex hF
      have hR := Rp_at emq2 hR
      cases hF
      exact r_vret C hrt hR (dk DX5_setLog 17 rfl)
set_option maxHeartbeats 4000000 in
set_option maxRecDepth 100000 in
theorem C_Ma_judge (l : Launch) (hl0 : l.stackTraces = false) (G : GG) (a1 : Int32) (m0 : Mem) (v : Unit) (m' : Mem) (hF : F_Ma_judge a1 m0 = some (v, m')) : Ct l G mr0 N0 yX5_judge cX5_judge 3 none 4 [.ref (G.2.1 + 16), .int a1] m0 none m' := by
  refine Ct_of hl0 (by decide) (Nat.le_of_ble_eq_true rfl) ?_
  intro p e s mid args below meth c ls C hrt hl hR
  have hx := C.1.1
  have hb := C.1.2.1
  have hl : lv_has ls 3 [(0, .ref (G.2.1 + 16)), (1, .int a1)] := hl
  unfold F_Ma_judge at hF
  refine lv_aload_n hx hb (dk DX5_judge 0 rfl) rfl (lv_at hl 0 rfl) ?_
  obtain ⟨xq3, mq1, hzq2, hF⟩ := bnd_ex hF
  refine r_callVi (As := []) (rest := []) C hR (C_Ma_batting l hl0 G m0 _ _ hzq2) (by decide) (by decide) ob16 rfl wX5_70 rfl rfl (Nat.le_of_ble_eq_true rfl) hl.1 ⟨Nat.zero_le _, Nat.zero_le _⟩ (dk DX5_judge 1 rfl) (fun H locs hR => ?_)
  refine lv_istore_n (lv' := [(2, .int xq3), (0, .ref (G.2.1 + 16)), (1, .int a1)]) hx hb (dk DX5_judge 2 rfl) rfl hl (by decide) rfl (fun ls hl => ?_)
  refine lv_aload_n hx hb (dk DX5_judge 3 rfl) rfl (lv_at hl 1 rfl) ?_
  refine gX5_15 C hR ob16 (dk DX5_judge 4 rfl) ?_
  refine lv_iconst (v := (3 : Int32)) hx hb (dk DX5_judge 5 rfl) (by decide) ?_
  obtain ⟨k29_4, ek29_4, hF⟩ := lt_ex hF
  have J29 : ∀ (mq4 : Mem) (H : Heap) (locs : List Loc) (ls : Array Slot), lv_has ls 3 [(0, .ref (G.2.1 + 16)), (1, .int a1), (2, .int xq3)] → Rp G mr0 N0 mq4 s H locs → k29_4  mq4 = some (v, m') → W p l e (rmD 4) s mid args below meth c H locs 0 0 (MQ below (QR G mr0 N0 none m') args s 0 0 (fun q => G.2.1 ≤ q)) (F0 mid 29 ls []) := by
    intro  mq4 H locs ls hl hR hF
    rw [ek29_4] at hF
    refine lv_aload_n hx hb (dk DX5_judge 15 rfl) rfl (lv_at hl 0 rfl) ?_
    refine gX5_15 C hR ob16 (dk DX5_judge 16 rfl) ?_
    refine lv_iconst (v := (3 : Int32)) hx hb (dk DX5_judge 17 rfl) (by decide) ?_
    obtain ⟨k68_5, ek68_5, hF⟩ := lt_ex hF
    have J68 : ∀ (mq5 : Mem) (H : Heap) (locs : List Loc) (ls : Array Slot), lv_has ls 3 [(0, .ref (G.2.1 + 16)), (1, .int a1)] → Rp G mr0 N0 mq5 s H locs → k68_5  mq5 = some (v, m') → W p l e (rmD 4) s mid args below meth c H locs 0 0 (MQ below (QR G mr0 N0 none m') args s 0 0 (fun q => G.2.1 ≤ q)) (F0 mid 68 ls []) := by
      intro  mq5 H locs ls hl hR hF
      rw [ek68_5] at hF
      refine lv_aload_n hx hb (dk DX5_judge 35 rfl) rfl (lv_at hl 0 rfl) ?_
      refine gX5_21 C hR ob16 (dk DX5_judge 36 rfl) ?_
      refine lv_iload_n hx hb (dk DX5_judge 37 rfl) rfl (lv_at hl 1 rfl) ?_
      refine lv_icmp_lt (tgt := 81) hx hb (dk DX5_judge 38 rfl) (by decide) (fun c73 => ?_) (fun c73 => ?_)
      · have hF := if_t c73 hF
        cases hF
        exact r_vret C hrt hR (dk DX5_judge 42 rfl)
      · have hF := if_f c73 hF
        refine lv_aload_n hx hb (dk DX5_judge 39 rfl) rfl (lv_at hl 0 rfl) ?_
        refine lv_iconst (v := (2 : Int32)) hx hb (dk DX5_judge 40 rfl) (by decide) ?_
        refine pX5_24 (x := (2 : Int32)) C hR ob16 (dk DX5_judge 41 rfl) (fun H locs hR => ?_)
        obtain ⟨mq6, emq6, hF⟩ := lt_ex hF
        have hR := Rp_at emq6 hR
        cases hF
        exact r_vret C hrt hR (dk DX5_judge 42 rfl)
    refine lv_icmp_ne (tgt := 68) hx hb (dk DX5_judge 18 rfl) (by decide) (fun c34 => ?_) (fun c34 => ?_)
    · have hF := if_f c34 hF
      exact J68 mq4 _ _ ls (lv_sub hl [0, 1] rfl) hR hF
    · have hF := if_t c34 hF
      refine lv_aload_n hx hb (dk DX5_judge 19 rfl) rfl (lv_at hl 0 rfl) ?_
      refine gX5_18 C hR ob16 (dk DX5_judge 20 rfl) ?_
      refine lv_bipush (v := (10 : Int32)) hx hb (dk DX5_judge 21 rfl) (by decide) ?_
      refine lv_icmp_ne (tgt := 68) hx hb (dk DX5_judge 22 rfl) (by decide) (fun c43 => ?_) (fun c43 => ?_)
      · have hF := if_f c43 hF
        exact J68 mq4 _ _ ls (lv_sub hl [0, 1] rfl) hR hF
      · have hF := if_t c43 hF
        refine lv_aload_n hx hb (dk DX5_judge 23 rfl) rfl (lv_at hl 0 rfl) ?_
        refine lv_aload_n hx hb (dk DX5_judge 24 rfl) rfl (lv_at hl 0 rfl) ?_
        refine lv_iload_n hx hb (dk DX5_judge 25 rfl) rfl (lv_at hl 2 rfl) ?_
        obtain ⟨xq9, mq7, hzq8, hF⟩ := bnd_ex hF
        refine r_callVi (As := [.int xq3]) (rest := [.ref (G.2.1 + 16)]) C hR (C_Ma_leadOf l hl0 G xq3 mq4 _ _ hzq8) (by decide) (by decide) ob16 rfl wX5_65 rfl rfl (Nat.le_of_ble_eq_true rfl) hl.1 ⟨Nat.zero_le _, Nat.zero_le _⟩ (dk DX5_judge 26 rfl) (fun H locs hR => ?_)
        obtain ⟨k62_11, ek62_11, hF⟩ := lt_ex hF
        have J62 : ∀ (xq11 : Int32) (mq10 : Mem) (H : Heap) (locs : List Loc) (ls : Array Slot), lv_has ls 3 [] → Rp G mr0 N0 mq10 s H locs → k62_11 xq11 mq10 = some (v, m') → W p l e (rmD 4) s mid args below meth c H locs 0 0 (MQ below (QR G mr0 N0 none m') args s 0 0 (fun q => G.2.1 ≤ q)) (F0 mid 62 ls [.int xq11, .ref (G.2.1 + 16)]) := by
          intro xq11 mq10 H locs ls hl hR hF
          rw [ek62_11] at hF
          refine pX5_24 (x := xq11) C hR ob16 (dk DX5_judge 33 rfl) (fun H locs hR => ?_)
          obtain ⟨mq12, emq12, hF⟩ := lt_ex hF
          have hR := Rp_at emq12 hR
          refine lv_goto (tgt := 81) hx hb (dk DX5_judge 34 rfl) (by decide) ?_
          cases hF
          exact r_vret C hrt hR (dk DX5_judge 42 rfl)
        refine lv_if_ne (tgt := 59) hx hb (dk DX5_judge 27 rfl) (by decide) (fun c52 => ?_) (fun c52 => ?_)
        · have hF := if_f c52 hF
          refine lv_iconst (v := (1 : Int32)) hx hb (dk DX5_judge 30 rfl) (by decide) ?_
          refine lv_iload_n hx hb (dk DX5_judge 31 rfl) rfl (lv_at hl 2 rfl) ?_
          refine lv_isub hx hb (dk DX5_judge 32 rfl) ?_
          exact J62 ((1 : Int32) - xq3) mq7 _ _ ls (lv_sub hl [] rfl) hR hF
        · have hF := if_t c52 hF
          refine lv_iconst (v := (2 : Int32)) hx hb (dk DX5_judge 28 rfl) (by decide) ?_
          refine lv_goto (tgt := 62) hx hb (dk DX5_judge 29 rfl) (by decide) ?_
          exact J62 (2 : Int32) mq7 _ _ ls (lv_sub hl [] rfl) hR hF
  refine lv_icmp_ne (tgt := 29) hx hb (dk DX5_judge 6 rfl) (by decide) (fun c10 => ?_) (fun c10 => ?_)
  · have hF := if_f c10 hF
    exact J29 mq1 _ _ ls (lv_sub hl [1, 2, 0] rfl) hR hF
  · have hF := if_t c10 hF
    refine lv_aload_n hx hb (dk DX5_judge 7 rfl) rfl (lv_at hl 1 rfl) ?_
    refine lv_iload_n hx hb (dk DX5_judge 8 rfl) rfl (lv_at hl 0 rfl) ?_
    obtain ⟨xq15, mq13, hzq14, hF⟩ := bnd_ex hF
    refine r_callVi (As := [.int xq3]) (rest := []) C hR (C_Ma_leadOf l hl0 G xq3 mq1 _ _ hzq14) (by decide) (by decide) ob16 rfl wX5_65 rfl rfl (Nat.le_of_ble_eq_true rfl) hl.1 ⟨Nat.zero_le _, Nat.zero_le _⟩ (dk DX5_judge 9 rfl) (fun H locs hR => ?_)
    refine lv_if_le (tgt := 29) hx hb (dk DX5_judge 10 rfl) (by decide) (fun c18 => ?_) (fun c18 => ?_)
    · have hF := if_t c18 hF
      exact J29 mq13 _ _ ls (lv_sub hl [1, 2, 0] rfl) hR hF
    · have hF := if_f c18 hF
      refine lv_aload_n hx hb (dk DX5_judge 11 rfl) rfl (lv_at hl 1 rfl) ?_
      refine lv_iload_n hx hb (dk DX5_judge 12 rfl) rfl (lv_at hl 0 rfl) ?_
      refine pX5_24 (x := xq3) C hR ob16 (dk DX5_judge 13 rfl) (fun H locs hR => ?_)
      obtain ⟨mq16, emq16, hF⟩ := lt_ex hF
      have hR := Rp_at emq16 hR
      refine lv_goto (tgt := 81) hx hb (dk DX5_judge 14 rfl) (by decide) ?_
      cases hF
      exact r_vret C hrt hR (dk DX5_judge 42 rfl)
set_option maxHeartbeats 4000000 in
set_option maxRecDepth 100000 in
theorem C_Ma_beginNext (l : Launch) (hl0 : l.stackTraces = false) (G : GG) (m0 : Mem) (v : Unit) (m' : Mem) (hF : F_Ma_beginNext m0 = some (v, m')) : Ct l G mr0 N0 yX5_beginNext cX5_beginNext 1 none 1 [.ref (G.2.1 + 16)] m0 none m' := by
  refine Ct_of hl0 (by decide) (Nat.le_of_ble_eq_true rfl) ?_
  intro p e s mid args below meth c ls C hrt hl hR
  have hx := C.1.1
  have hb := C.1.2.1
  have hl : lv_has ls 1 [(0, .ref (G.2.1 + 16))] := hl
  unfold F_Ma_beginNext at hF
  refine lv_aload_n hx hb (dk DX5_beginNext 0 rfl) rfl (lv_at hl 0 rfl) ?_
  refine lv_dup hx hb (dk DX5_beginNext 1 rfl) rfl ?_
  refine gX5_15 C hR ob16 (dk DX5_beginNext 2 rfl) ?_
  refine lv_iconst (v := (1 : Int32)) hx hb (dk DX5_beginNext 3 rfl) (by decide) ?_
  refine lv_iadd hx hb (dk DX5_beginNext 4 rfl) ?_
  refine pX5_15 (x := (gI m0 16 1) + (1 : Int32)) C hR ob16 (dk DX5_beginNext 5 rfl) (fun H locs hR => ?_)
  obtain ⟨mq1, emq1, hF⟩ := lt_ex hF
  have hR := Rp_at emq1 hR
  refine lv_aload_n hx hb (dk DX5_beginNext 6 rfl) rfl (lv_at hl 0 rfl) ?_
  refine lv_iconst (v := (0 : Int32)) hx hb (dk DX5_beginNext 7 rfl) (by decide) ?_
  refine pX5_18 (x := (0 : Int32)) C hR ob16 (dk DX5_beginNext 8 rfl) (fun H locs hR => ?_)
  obtain ⟨mq2, emq2, hF⟩ := lt_ex hF
  have hR := Rp_at emq2 hR
  refine lv_aload_n hx hb (dk DX5_beginNext 9 rfl) rfl (lv_at hl 0 rfl) ?_
  refine lv_iconst (v := (1 : Int32)) hx hb (dk DX5_beginNext 10 rfl) (by decide) ?_
  refine pX5_31 (x := true) C hR ob16 (dk DX5_beginNext 11 rfl) (fun H locs hR => ?_)
  obtain ⟨mq3, emq3, hF⟩ := lt_ex hF
  have hR := Rp_at emq3 hR
  cases hF
  exact r_vret C hrt hR (dk DX5_beginNext 12 rfl)
set_option maxHeartbeats 4000000 in
set_option maxRecDepth 100000 in
theorem C_Ma_playSession (l : Launch) (hl0 : l.stackTraces = false) (G : GG) (a2 : Int32) (a3 : Bool) (m0 : Mem) (v : Unit) (m' : Mem) (hF : F_Ma_playSession a2 a3 m0 = some (v, m')) : Ct l G mr0 N0 yX5_playSession cX5_playSession 8 none 5 [.ref (G.2.1 + 16), .ref (G.2.1 + 3), .int a2, .int (b2i a3)] m0 none m' := by
  refine Ct_of hl0 (by decide) (Nat.le_of_ble_eq_true rfl) ?_
  intro p e s mid args below meth c ls C hrt hl hR
  have hx := C.1.1
  have hb := C.1.2.1
  have hl : lv_has ls 8 [(0, .ref (G.2.1 + 16)), (1, .ref (G.2.1 + 3)), (2, .int a2), (3, .int (b2i a3))] := hl
  unfold F_Ma_playSession at hF
  refine lv_aload_n hx hb (dk DX5_playSession 0 rfl) rfl (lv_at hl 0 rfl) ?_
  obtain ⟨xq3, mq1, hzq2, hF⟩ := bnd_ex hF
  refine r_callVi (As := []) (rest := []) C hR (C_Ma_batting l hl0 G m0 _ _ hzq2) (by decide) (by decide) ob16 rfl wX5_70 rfl rfl (Nat.le_of_ble_eq_true rfl) hl.1 ⟨Nat.zero_le _, Nat.zero_le _⟩ (dk DX5_playSession 1 rfl) (fun H locs hR => ?_)
  refine lv_istore (lv' := [(4, .int xq3), (0, .ref (G.2.1 + 16)), (1, .ref (G.2.1 + 3)), (2, .int a2), (3, .int (b2i a3))]) hx hb (dk DX5_playSession 2 rfl) hl (by decide) rfl (fun ls hl => ?_)
  refine lv_aload_n hx hb (dk DX5_playSession 3 rfl) rfl (lv_at hl 2 rfl) ?_
  refine lv_aload_n hx hb (dk DX5_playSession 4 rfl) rfl (lv_at hl 1 rfl) ?_
  refine gX5_21 C hR ob16 (dk DX5_playSession 5 rfl) ?_
  refine lv_aload_n hx hb (dk DX5_playSession 6 rfl) rfl (lv_at hl 1 rfl) ?_
  refine gX5_15 C hR ob16 (dk DX5_playSession 7 rfl) ?_
  refine lv_iload hx hb (dk DX5_playSession 8 rfl) (lv_at hl 0 rfl) ?_
  obtain ⟨xq6, mq4, hzq5, hF⟩ := bnd_ex hF
  refine r_callVi (As := [.int (gI mq1 16 3), .int (gI mq1 16 1), .int xq3]) (rest := []) C hR (C_Gr_levelOf l hl0 G (gI mq1 16 3) (gI mq1 16 1) xq3 mq1 _ _ hzq5) (by decide) (by decide) ob3 rfl wX5_73 rfl rfl (Nat.le_of_ble_eq_true rfl) hl.1 ⟨Nat.zero_le _, Nat.zero_le _⟩ (dk DX5_playSession 9 rfl) (fun H locs hR => ?_)
  refine lv_istore (lv' := [(5, .int xq6), (4, .int xq3), (0, .ref (G.2.1 + 16)), (1, .ref (G.2.1 + 3)), (2, .int a2), (3, .int (b2i a3))]) hx hb (dk DX5_playSession 10 rfl) hl (by decide) rfl (fun ls hl => ?_)
  refine lv_iload_n hx hb (dk DX5_playSession 11 rfl) rfl (lv_at hl 5 rfl) ?_
  obtain ⟨k41_8, ek41_8, hF⟩ := lt_ex hF
  have J41 : ∀ (xq8 : Int32) (mq7 : Mem) (H : Heap) (locs : List Loc) (ls : Array Slot), lv_has ls 8 [(0, .ref (G.2.1 + 16)), (1, .ref (G.2.1 + 3)), (2, .int a2), (3, .int (b2i a3)), (4, .int xq3), (5, .int xq6)] → Rp G mr0 N0 mq7 s H locs → k41_8 xq8 mq7 = some (v, m') → W p l e (rmD 5) s mid args below meth c H locs 0 0 (MQ below (QR G mr0 N0 none m') args s 0 0 (fun q => G.2.1 ≤ q)) (F0 mid 41 ls [.int xq8]) := by
    intro xq8 mq7 H locs ls hl hR hF
    rw [ek41_8] at hF
    refine lv_istore (lv' := [(6, .int xq8), (0, .ref (G.2.1 + 16)), (1, .ref (G.2.1 + 3)), (2, .int a2), (3, .int (b2i a3)), (4, .int xq3), (5, .int xq6)]) hx hb (dk DX5_playSession 21 rfl) hl (by decide) rfl (fun ls hl => ?_)
    refine lv_aload_n hx hb (dk DX5_playSession 22 rfl) rfl (lv_at hl 2 rfl) ?_
    refine lv_aload_n hx hb (dk DX5_playSession 23 rfl) rfl (lv_at hl 1 rfl) ?_
    refine gX5_21 C hR ob16 (dk DX5_playSession 24 rfl) ?_
    refine lv_iload hx hb (dk DX5_playSession 25 rfl) (lv_at hl 6 rfl) ?_
    refine lv_iload_n hx hb (dk DX5_playSession 26 rfl) rfl (lv_at hl 3 rfl) ?_
    obtain ⟨xq11, mq9, hzq10, hF⟩ := bnd_ex hF
    refine r_callVi (As := [.int (gI mq7 16 3), .int xq6, .int a2]) (rest := []) C hR (C_Gr_outsIn l hl0 G (gI mq7 16 3) xq6 a2 mq7 _ _ hzq10) (by decide) (by decide) ob3 rfl wX5_82 rfl rfl (Nat.le_of_ble_eq_true rfl) hl.1 ⟨Nat.zero_le _, Nat.zero_le _⟩ (dk DX5_playSession 27 rfl) (fun H locs hR => ?_)
    refine lv_istore (lv' := [(7, .int xq11), (6, .int xq8), (0, .ref (G.2.1 + 16)), (1, .ref (G.2.1 + 3)), (2, .int a2), (3, .int (b2i a3)), (4, .int xq3), (5, .int xq6)]) hx hb (dk DX5_playSession 28 rfl) hl (by decide) rfl (fun ls hl => ?_)
    refine lv_iload_n hx hb (dk DX5_playSession 29 rfl) rfl (lv_at hl 5 rfl) ?_
    obtain ⟨k70_13, ek70_13, hF⟩ := lt_ex hF
    have J70 : ∀ (xq13 : Int32) (mq12 : Mem) (H : Heap) (locs : List Loc) (ls : Array Slot), lv_has ls 8 [(0, .ref (G.2.1 + 16)), (1, .ref (G.2.1 + 3)), (2, .int a2), (4, .int xq3), (5, .int xq6), (6, .int xq8), (7, .int xq13)] → Rp G mr0 N0 mq12 s H locs → k70_13 xq13 mq12 = some (v, m') → W p l e (rmD 5) s mid args below meth c H locs 0 0 (MQ below (QR G mr0 N0 none m') args s 0 0 (fun q => G.2.1 ≤ q)) (F0 mid 70 ls []) := by
      intro xq13 mq12 H locs ls hl hR hF
      rw [ek70_13] at hF
      refine lv_iload hx hb (dk DX5_playSession 37 rfl) (lv_at hl 3 rfl) ?_
      obtain ⟨k100_14, ek100_14, hF⟩ := lt_ex hF
      have J100 : ∀ (mq14 : Mem) (H : Heap) (locs : List Loc) (ls : Array Slot), lv_has ls 8 [(0, .ref (G.2.1 + 16)), (1, .ref (G.2.1 + 3)), (2, .int a2), (4, .int xq3), (5, .int xq6), (6, .int xq8), (7, .int xq13)] → Rp G mr0 N0 mq14 s H locs → k100_14  mq14 = some (v, m') → W p l e (rmD 5) s mid args below meth c H locs 0 0 (MQ below (QR G mr0 N0 none m') args s 0 0 (fun q => G.2.1 ≤ q)) (F0 mid 100 ls []) := by
        intro  mq14 H locs ls hl hR hF
        rw [ek100_14] at hF
        refine lv_aload_n hx hb (dk DX5_playSession 52 rfl) rfl (lv_at hl 0 rfl) ?_
        refine lv_bipush (v := (10 : Int32)) hx hb (dk DX5_playSession 53 rfl) (by decide) ?_
        refine lv_aload_n hx hb (dk DX5_playSession 54 rfl) rfl (lv_at hl 0 rfl) ?_
        refine gX5_18 C hR ob16 (dk DX5_playSession 55 rfl) ?_
        refine lv_iload hx hb (dk DX5_playSession 56 rfl) (lv_at hl 6 rfl) ?_
        refine lv_iadd hx hb (dk DX5_playSession 57 rfl) ?_
        refine r_mnI C (gd q1285 rfl) (by decide) (Nat.le_of_ble_eq_true rfl) hl.1 ⟨Nat.zero_le _, Nat.zero_le _⟩ (dk DX5_playSession 58 rfl) ?_
        refine pX5_18 (x := mnI (10 : Int32) ((gI mq14 16 2) + xq13)) C hR ob16 (dk DX5_playSession 59 rfl) (fun H locs hR => ?_)
        obtain ⟨mq15, emq15, hF⟩ := lt_ex hF
        have hR := Rp_at emq15 hR
        refine lv_aload_n hx hb (dk DX5_playSession 60 rfl) rfl (lv_at hl 0 rfl) ?_
        refine lv_iconst (v := (0 : Int32)) hx hb (dk DX5_playSession 61 rfl) (by decide) ?_
        refine pX5_31 (x := false) C hR ob16 (dk DX5_playSession 62 rfl) (fun H locs hR => ?_)
        obtain ⟨mq16, emq16, hF⟩ := lt_ex hF
        have hR := Rp_at emq16 hR
        refine lv_aload_n hx hb (dk DX5_playSession 63 rfl) rfl (lv_at hl 0 rfl) ?_
        refine lv_iconst (v := (0 : Int32)) hx hb (dk DX5_playSession 64 rfl) (by decide) ?_
        refine lv_aload_n hx hb (dk DX5_playSession 65 rfl) rfl (lv_at hl 0 rfl) ?_
        refine gX5_15 C hR ob16 (dk DX5_playSession 66 rfl) ?_
        obtain ⟨uq19, mq17, hzq18, hF⟩ := bnd_ex hF
        refine r_callVv (As := [.int (0 : Int32), .int (gI mq16 16 1)]) (rest := []) C hR (C_Ma_setLog l hl0 G (0 : Int32) (gI mq16 16 1) mq16 _ _ hzq18) (by decide) (by decide) ob16 rfl wX5_94 rfl rfl (Nat.le_of_ble_eq_true rfl) hl.1 ⟨Nat.zero_le _, Nat.zero_le _⟩ (dk DX5_playSession 67 rfl) (fun H locs hR => ?_)
        refine lv_aload_n hx hb (dk DX5_playSession 68 rfl) rfl (lv_at hl 0 rfl) ?_
        refine lv_iconst (v := (1 : Int32)) hx hb (dk DX5_playSession 69 rfl) (by decide) ?_
        refine lv_iload hx hb (dk DX5_playSession 70 rfl) (lv_at hl 3 rfl) ?_
        obtain ⟨uq22, mq20, hzq21, hF⟩ := bnd_ex hF
        refine r_callVv (As := [.int (1 : Int32), .int xq3]) (rest := []) C hR (C_Ma_setLog l hl0 G (1 : Int32) xq3 mq17 _ _ hzq21) (by decide) (by decide) ob16 rfl wX5_94 rfl rfl (Nat.le_of_ble_eq_true rfl) hl.1 ⟨Nat.zero_le _, Nat.zero_le _⟩ (dk DX5_playSession 71 rfl) (fun H locs hR => ?_)
        refine lv_aload_n hx hb (dk DX5_playSession 72 rfl) rfl (lv_at hl 0 rfl) ?_
        refine lv_iconst (v := (2 : Int32)) hx hb (dk DX5_playSession 73 rfl) (by decide) ?_
        refine lv_iload hx hb (dk DX5_playSession 74 rfl) (lv_at hl 4 rfl) ?_
        obtain ⟨uq25, mq23, hzq24, hF⟩ := bnd_ex hF
        refine r_callVv (As := [.int (2 : Int32), .int xq6]) (rest := []) C hR (C_Ma_setLog l hl0 G (2 : Int32) xq6 mq20 _ _ hzq24) (by decide) (by decide) ob16 rfl wX5_94 rfl rfl (Nat.le_of_ble_eq_true rfl) hl.1 ⟨Nat.zero_le _, Nat.zero_le _⟩ (dk DX5_playSession 75 rfl) (fun H locs hR => ?_)
        refine lv_aload_n hx hb (dk DX5_playSession 76 rfl) rfl (lv_at hl 0 rfl) ?_
        refine lv_iconst (v := (3 : Int32)) hx hb (dk DX5_playSession 77 rfl) (by decide) ?_
        refine lv_iload_n hx hb (dk DX5_playSession 78 rfl) rfl (lv_at hl 2 rfl) ?_
        obtain ⟨uq28, mq26, hzq27, hF⟩ := bnd_ex hF
        refine r_callVv (As := [.int (3 : Int32), .int a2]) (rest := []) C hR (C_Ma_setLog l hl0 G (3 : Int32) a2 mq23 _ _ hzq27) (by decide) (by decide) ob16 rfl wX5_94 rfl rfl (Nat.le_of_ble_eq_true rfl) hl.1 ⟨Nat.zero_le _, Nat.zero_le _⟩ (dk DX5_playSession 79 rfl) (fun H locs hR => ?_)
        refine lv_aload_n hx hb (dk DX5_playSession 80 rfl) rfl (lv_at hl 0 rfl) ?_
        refine lv_iconst (v := (4 : Int32)) hx hb (dk DX5_playSession 81 rfl) (by decide) ?_
        refine lv_aload_n hx hb (dk DX5_playSession 82 rfl) rfl (lv_at hl 0 rfl) ?_
        refine lv_iload hx hb (dk DX5_playSession 83 rfl) (lv_at hl 3 rfl) ?_
        obtain ⟨xq31, mq29, hzq30, hF⟩ := bnd_ex hF
        refine r_callVi (As := [.int xq3]) (rest := [.int (4 : Int32), .ref (G.2.1 + 16)]) C hR (C_Ma_leadOf l hl0 G xq3 mq26 _ _ hzq30) (by decide) (by decide) ob16 rfl wX5_65 rfl rfl (Nat.le_of_ble_eq_true rfl) hl.1 ⟨Nat.zero_le _, Nat.zero_le _⟩ (dk DX5_playSession 84 rfl) (fun H locs hR => ?_)
        obtain ⟨uq34, mq32, hzq33, hF⟩ := bnd_ex hF
        refine r_callVv (As := [.int (4 : Int32), .int xq31]) (rest := []) C hR (C_Ma_setLog l hl0 G (4 : Int32) xq31 mq29 _ _ hzq33) (by decide) (by decide) ob16 rfl wX5_94 rfl rfl (Nat.le_of_ble_eq_true rfl) hl.1 ⟨Nat.zero_le _, Nat.zero_le _⟩ (dk DX5_playSession 85 rfl) (fun H locs hR => ?_)
        refine lv_aload_n hx hb (dk DX5_playSession 86 rfl) rfl (lv_at hl 0 rfl) ?_
        refine lv_iconst (v := (5 : Int32)) hx hb (dk DX5_playSession 87 rfl) (by decide) ?_
        refine lv_aload_n hx hb (dk DX5_playSession 88 rfl) rfl (lv_at hl 0 rfl) ?_
        refine gX5_18 C hR ob16 (dk DX5_playSession 89 rfl) ?_
        obtain ⟨uq37, mq35, hzq36, hF⟩ := bnd_ex hF
        refine r_callVv (As := [.int (5 : Int32), .int (gI mq32 16 2)]) (rest := []) C hR (C_Ma_setLog l hl0 G (5 : Int32) (gI mq32 16 2) mq32 _ _ hzq36) (by decide) (by decide) ob16 rfl wX5_94 rfl rfl (Nat.le_of_ble_eq_true rfl) hl.1 ⟨Nat.zero_le _, Nat.zero_le _⟩ (dk DX5_playSession 90 rfl) (fun H locs hR => ?_)
        refine lv_aload_n hx hb (dk DX5_playSession 91 rfl) rfl (lv_at hl 0 rfl) ?_
        refine lv_bipush (v := (6 : Int32)) hx hb (dk DX5_playSession 92 rfl) (by decide) ?_
        refine lv_iload hx hb (dk DX5_playSession 93 rfl) (lv_at hl 5 rfl) ?_
        obtain ⟨uq40, mq38, hzq39, hF⟩ := bnd_ex hF
        refine r_callVv (As := [.int (6 : Int32), .int xq8]) (rest := []) C hR (C_Ma_setLog l hl0 G (6 : Int32) xq8 mq35 _ _ hzq39) (by decide) (by decide) ob16 rfl wX5_94 rfl rfl (Nat.le_of_ble_eq_true rfl) hl.1 ⟨Nat.zero_le _, Nat.zero_le _⟩ (dk DX5_playSession 94 rfl) (fun H locs hR => ?_)
        refine lv_aload_n hx hb (dk DX5_playSession 95 rfl) rfl (lv_at hl 0 rfl) ?_
        refine lv_dup hx hb (dk DX5_playSession 96 rfl) rfl ?_
        refine gX5_21 C hR ob16 (dk DX5_playSession 97 rfl) ?_
        refine lv_iconst (v := (1 : Int32)) hx hb (dk DX5_playSession 98 rfl) (by decide) ?_
        refine lv_iadd hx hb (dk DX5_playSession 99 rfl) ?_
        refine pX5_21 (x := (gI mq38 16 3) + (1 : Int32)) C hR ob16 (dk DX5_playSession 100 rfl) (fun H locs hR => ?_)
        obtain ⟨mq41, emq41, hF⟩ := lt_ex hF
        have hR := Rp_at emq41 hR
        refine lv_aload_n hx hb (dk DX5_playSession 101 rfl) rfl (lv_at hl 0 rfl) ?_
        refine gX5_18 C hR ob16 (dk DX5_playSession 102 rfl) ?_
        refine lv_bipush (v := (10 : Int32)) hx hb (dk DX5_playSession 103 rfl) (by decide) ?_
        obtain ⟨k209_42, ek209_42, hF⟩ := lt_ex hF
        have J209 : ∀ (mq42 : Mem) (H : Heap) (locs : List Loc) (ls : Array Slot), lv_has ls 8 [(0, .ref (G.2.1 + 16)), (1, .ref (G.2.1 + 3))] → Rp G mr0 N0 mq42 s H locs → k209_42  mq42 = some (v, m') → W p l e (rmD 5) s mid args below meth c H locs 0 0 (MQ below (QR G mr0 N0 none m') args s 0 0 (fun q => G.2.1 ≤ q)) (F0 mid 209 ls []) := by
          intro  mq42 H locs ls hl hR hF
          rw [ek209_42] at hF
          refine lv_aload_n hx hb (dk DX5_playSession 111 rfl) rfl (lv_at hl 0 rfl) ?_
          refine lv_aload_n hx hb (dk DX5_playSession 112 rfl) rfl (lv_at hl 1 rfl) ?_
          refine gX5_101 C hR ob3 (dk DX5_playSession 113 rfl) ?_
          obtain ⟨uq45, mq43, hzq44, hF⟩ := bnd_ex hF
          refine r_callVv (As := [.int (gI mq42 3 0)]) (rest := []) C hR (C_Ma_judge l hl0 G (gI mq42 3 0) mq42 _ _ hzq44) (by decide) (by decide) ob16 rfl wX5_104 rfl rfl (Nat.le_of_ble_eq_true rfl) hl.1 ⟨Nat.zero_le _, Nat.zero_le _⟩ (dk DX5_playSession 114 rfl) (fun H locs hR => ?_)
          cases hF
          exact r_vret C hrt hR (dk DX5_playSession 115 rfl)
        refine lv_icmp_ne (tgt := 209) hx hb (dk DX5_playSession 104 rfl) (by decide) (fun c194 => ?_) (fun c194 => ?_)
        · have hF := if_f c194 hF
          exact J209 mq41 _ _ ls (lv_sub hl [0, 1] rfl) hR hF
        · have hF := if_t c194 hF
          refine lv_aload_n hx hb (dk DX5_playSession 105 rfl) rfl (lv_at hl 0 rfl) ?_
          refine gX5_15 C hR ob16 (dk DX5_playSession 106 rfl) ?_
          refine lv_iconst (v := (3 : Int32)) hx hb (dk DX5_playSession 107 rfl) (by decide) ?_
          refine lv_icmp_eq (tgt := 209) hx hb (dk DX5_playSession 108 rfl) (by decide) (fun c202 => ?_) (fun c202 => ?_)
          · have hF := if_t c202 hF
            exact J209 mq41 _ _ ls (lv_sub hl [0, 1] rfl) hR hF
          · have hF := if_f c202 hF
            refine lv_aload_n hx hb (dk DX5_playSession 109 rfl) rfl (lv_at hl 0 rfl) ?_
            obtain ⟨uq48, mq46, hzq47, hF⟩ := bnd_ex hF
            refine r_callVv (As := []) (rest := []) C hR (C_Ma_beginNext l hl0 G mq41 _ _ hzq47) (by decide) (by decide) ob16 rfl wX5_98 rfl rfl (Nat.le_of_ble_eq_true rfl) hl.1 ⟨Nat.zero_le _, Nat.zero_le _⟩ (dk DX5_playSession 110 rfl) (fun H locs hR => ?_)
            exact J209 mq46 _ _ ls (lv_sub hl [0, 1] rfl) hR hF
      refine lv_if_ne (tgt := 89) hx hb (dk DX5_playSession 38 rfl) (by decide) (fun c72 => ?_) (fun c72 => ?_)
      · have hF := if_f c72 hF
        refine lv_aload_n hx hb (dk DX5_playSession 46 rfl) rfl (lv_at hl 0 rfl) ?_
        refine lv_dup hx hb (dk DX5_playSession 47 rfl) rfl ?_
        refine gX5_40 C hR ob16 (dk DX5_playSession 48 rfl) ?_
        refine lv_iload hx hb (dk DX5_playSession 49 rfl) (lv_at hl 5 rfl) ?_
        refine lv_iadd hx hb (dk DX5_playSession 50 rfl) ?_
        refine pX5_40 (x := (gI mq12 16 9) + xq8) C hR ob16 (dk DX5_playSession 51 rfl) (fun H locs hR => ?_)
        obtain ⟨mq49, emq49, hF⟩ := lt_ex hF
        have hR := Rp_at emq49 hR
        exact J100 mq49 _ _ ls (lv_sub hl [0, 1, 2, 3, 4, 5, 6] rfl) hR hF
      · have hF := if_t c72 hF
        refine lv_aload_n hx hb (dk DX5_playSession 39 rfl) rfl (lv_at hl 0 rfl) ?_
        refine lv_dup hx hb (dk DX5_playSession 40 rfl) rfl ?_
        refine gX5_37 C hR ob16 (dk DX5_playSession 41 rfl) ?_
        refine lv_iload hx hb (dk DX5_playSession 42 rfl) (lv_at hl 5 rfl) ?_
        refine lv_iadd hx hb (dk DX5_playSession 43 rfl) ?_
        refine pX5_37 (x := (gI mq12 16 8) + xq8) C hR ob16 (dk DX5_playSession 44 rfl) (fun H locs hR => ?_)
        obtain ⟨mq50, emq50, hF⟩ := lt_ex hF
        have hR := Rp_at emq50 hR
        refine lv_goto (tgt := 100) hx hb (dk DX5_playSession 45 rfl) (by decide) ?_
        exact J100 mq50 _ _ ls (lv_sub hl [0, 1, 2, 3, 4, 5, 6] rfl) hR hF
    refine z_ifeq (tgt := 70) hx hb (dk DX5_playSession 30 rfl) (by decide) (fun c57 => ?_) (fun c57 => ?_)
    · have hF := if_f c57 hF
      exact J70 xq11 mq9 _ _ ls (lv_sub hl [2, 3, 4, 6, 7, 1, 0] rfl) hR hF
    · have hF := if_t c57 hF
      refine lv_iconst (v := (0 : Int32)) hx hb (dk DX5_playSession 31 rfl) (by decide) ?_
      refine lv_iload hx hb (dk DX5_playSession 32 rfl) (lv_at hl 0 rfl) ?_
      refine lv_iconst (v := (1 : Int32)) hx hb (dk DX5_playSession 33 rfl) (by decide) ?_
      refine lv_isub hx hb (dk DX5_playSession 34 rfl) ?_
      refine r_mxI C (gd q1284 rfl) (by decide) (Nat.le_of_ble_eq_true rfl) hl.1 ⟨Nat.zero_le _, Nat.zero_le _⟩ (dk DX5_playSession 35 rfl) ?_
      refine lv_topi (fun xq51 exq51 => ?_)
      have hF := lt_at exq51 hF
      refine lv_istore (lv' := [(7, .int xq51), (6, .int xq8), (0, .ref (G.2.1 + 16)), (1, .ref (G.2.1 + 3)), (2, .int a2), (3, .int (b2i a3)), (4, .int xq3), (5, .int xq6)]) hx hb (dk DX5_playSession 36 rfl) hl (by decide) rfl (fun ls hl => ?_)
      exact J70 xq51 mq9 _ _ ls (lv_sub hl [2, 3, 4, 6, 7, 1, 0] rfl) hR hF
  refine z_ifeq (tgt := 30) hx hb (dk DX5_playSession 12 rfl) (by decide) (fun c23 => ?_) (fun c23 => ?_)
  · have hF := if_f c23 hF
    refine lv_aload_n hx hb (dk DX5_playSession 15 rfl) rfl (lv_at hl 3 rfl) ?_
    refine lv_aload_n hx hb (dk DX5_playSession 16 rfl) rfl (lv_at hl 2 rfl) ?_
    refine gX5_21 C hR ob16 (dk DX5_playSession 17 rfl) ?_
    refine lv_iload hx hb (dk DX5_playSession 18 rfl) (lv_at hl 0 rfl) ?_
    refine lv_iload_n hx hb (dk DX5_playSession 19 rfl) rfl (lv_at hl 4 rfl) ?_
    obtain ⟨xq54, mq52, hzq53, hF⟩ := bnd_ex hF
    refine r_callVi (As := [.int (gI mq4 16 3), .int xq6, .int a2]) (rest := []) C hR (C_Gr_runsIn l hl0 G (gI mq4 16 3) xq6 a2 mq4 _ _ hzq53) (by decide) (by decide) ob3 rfl wX5_79 rfl rfl (Nat.le_of_ble_eq_true rfl) hl.1 ⟨Nat.zero_le _, Nat.zero_le _⟩ (dk DX5_playSession 20 rfl) (fun H locs hR => ?_)
    exact J41 xq54 mq52 _ _ ls (lv_sub hl [2, 3, 4, 5, 1, 0] rfl) hR hF
  · have hF := if_t c23 hF
    refine lv_iconst (v := (0 : Int32)) hx hb (dk DX5_playSession 13 rfl) (by decide) ?_
    refine lv_goto (tgt := 41) hx hb (dk DX5_playSession 14 rfl) (by decide) ?_
    exact J41 (0 : Int32) mq4 _ _ ls (lv_sub hl [2, 3, 4, 5, 1, 0] rfl) hR hF
set_option maxHeartbeats 4000000 in
set_option maxRecDepth 100000 in
theorem C_T_bring (l : Launch) (hl0 : l.stackTraces = false) (G : GG) (a1 : Int32) (m0 : Mem) (v : Nat ⊕ Int32) (m' : Mem) (hF : F_T_bring a1 m0 = some (v, m')) : CtX l G mr0 N0 yX10_bring cX10_bring 3 (some .int) 9 [.ref (G.2.1 + 0), .int a1] m0 (ouI v) m' := by
  refine CtX_of hl0 (by decide) (Nat.le_of_ble_eq_true rfl) ?_
  intro p e s mid args below meth c ls C hrt hex hl hR
  have hx := C.1.1
  have hb := C.1.2.1
  have hl : lv_has ls 3 [(0, .ref (G.2.1 + 0)), (1, .int a1)] := hl
  unfold F_T_bring at hF
  refine lv_aload_n hx hb (dk DX10_bring 0 rfl) rfl (lv_at hl 0 rfl) ?_
  refine lv_iload_n hx hb (dk DX10_bring 1 rfl) rfl (lv_at hl 1 rfl) ?_
  refine lv_iconst (v := (4 : Int32)) hx hb (dk DX10_bring 2 rfl) (by decide) ?_
  rcases bndX_ex hF with ⟨ke, mq1, hzq2, hF⟩ | ⟨uq3, mq1, hzq2, hF⟩
  · have hM := C_T_mustBeBelow l hl0 G a1 (4 : Int32) m0 (Sum.inl ke) mq1 hzq2
    rw [show ouV (Sum.inl ke) = (Sum.inl ke : Ou) from rfl] at hM
    cases hF
    exact x_passV (d := 9) (k := ke) (As := [.int a1, .int (4 : Int32)]) (rest := []) C hex hR hM (by decide) (by decide) ob0 rfl wX10_149 rfl rfl (Nat.le_of_ble_eq_true rfl) hl.1 (dk DX10_bring 3 rfl)
  · have hM := C_T_mustBeBelow l hl0 G a1 (4 : Int32) m0 (Sum.inr uq3) mq1 hzq2
    rw [show ouV (Sum.inr uq3) = (Sum.inr none : Ou) from rfl] at hM
    refine x_callVv (As := [.int a1, .int (4 : Int32)]) (rest := []) C hR hM (by decide) (by decide) ob0 rfl wX10_149 rfl rfl (Nat.le_of_ble_eq_true rfl) hl.1 ⟨Nat.zero_le _, Nat.zero_le _⟩ (dk DX10_bring 3 rfl) (fun H locs hR => ?_)
    refine lv_aload_n hx hb (dk DX10_bring 4 rfl) rfl (lv_at hl 0 rfl) ?_
    rcases bndX_ex hF with ⟨ke, mq4, hzq5, hF⟩ | ⟨uq6, mq4, hzq5, hF⟩
    · have hM := C_T_mustBeOn l hl0 G mq1 (Sum.inl ke) mq4 hzq5
      rw [show ouV (Sum.inl ke) = (Sum.inl ke : Ou) from rfl] at hM
      cases hF
      exact x_passV (d := 9) (k := ke) (As := []) (rest := []) C hex hR hM (by decide) (by decide) ob0 rfl wX10_247 rfl rfl (Nat.le_of_ble_eq_true rfl) hl.1 (dk DX10_bring 5 rfl)
    · have hM := C_T_mustBeOn l hl0 G mq1 (Sum.inr uq6) mq4 hzq5
      rw [show ouV (Sum.inr uq6) = (Sum.inr none : Ou) from rfl] at hM
      refine x_callVv (As := []) (rest := []) C hR hM (by decide) (by decide) ob0 rfl wX10_247 rfl rfl (Nat.le_of_ble_eq_true rfl) hl.1 ⟨Nat.zero_le _, Nat.zero_le _⟩ (dk DX10_bring 5 rfl) (fun H locs hR => ?_)
      refine lv_aload_n hx hb (dk DX10_bring 6 rfl) rfl (lv_at hl 0 rfl) ?_
      refine gX10_47 C hR ob0 rf0_7 (dk DX10_bring 7 rfl) ?_
      refine lv_aload_n hx hb (dk DX10_bring 8 rfl) rfl (lv_at hl 0 rfl) ?_
      refine gX10_37 C hR ob0 rf0_5 (dk DX10_bring 9 rfl) ?_
      obtain ⟨uq9, mq7, hzq8, hF⟩ := bnd_ex hF
      refine r_callVv (As := [.ref (G.2.1 + 16)]) (rest := []) C hR (C_Pa_remember l hl0 G mq4 _ _ hzq8) (by decide) (by decide) ob20 rfl wX10_240 rfl rfl (Nat.le_of_ble_eq_true rfl) hl.1 ⟨Nat.zero_le _, Nat.zero_le _⟩ (dk DX10_bring 10 rfl) (fun H locs hR => ?_)
      refine lv_aload_n hx hb (dk DX10_bring 11 rfl) rfl (lv_at hl 0 rfl) ?_
      refine gX10_37 C hR ob0 rf0_5 (dk DX10_bring 12 rfl) ?_
      obtain ⟨xq12, mq10, hzq11, hF⟩ := bnd_ex hF
      refine r_callVi (As := []) (rest := []) C hR (C_Ma_batting l hl0 G mq7 _ _ hzq11) (by decide) (by decide) ob16 rfl wX10_219 rfl rfl (Nat.le_of_ble_eq_true rfl) hl.1 ⟨Nat.zero_le _, Nat.zero_le _⟩ (dk DX10_bring 13 rfl) (fun H locs hR => ?_)
      refine lv_istore_n (lv' := [(2, .int xq12), (0, .ref (G.2.1 + 0)), (1, .int a1)]) hx hb (dk DX10_bring 14 rfl) rfl hl (by decide) rfl (fun ls hl => ?_)
      refine lv_aload_n hx hb (dk DX10_bring 15 rfl) rfl (lv_at hl 1 rfl) ?_
      refine gX10_37 C hR ob0 rf0_5 (dk DX10_bring 16 rfl) ?_
      refine lv_aload_n hx hb (dk DX10_bring 17 rfl) rfl (lv_at hl 1 rfl) ?_
      refine gX10_31 C hR ob0 rf0_4 (dk DX10_bring 18 rfl) ?_
      refine lv_iload_n hx hb (dk DX10_bring 19 rfl) rfl (lv_at hl 2 rfl) ?_
      refine lv_iconst (v := (0 : Int32)) hx hb (dk DX10_bring 20 rfl) (by decide) ?_
      obtain ⟨uq15, mq13, hzq14, hF⟩ := bnd_ex hF
      refine r_callVv (As := [.ref (G.2.1 + 3), .int a1, .int (b2i false)]) (rest := []) C hR (C_Ma_playSession l hl0 G a1 false mq10 _ _ hzq14) (by decide) (by decide) ob16 rfl wX10_253 rfl rfl (Nat.le_of_ble_eq_true rfl) hl.1 ⟨Nat.zero_le _, Nat.zero_le _⟩ (dk DX10_bring 21 rfl) (fun H locs hR => ?_)
      refine lv_aload_n hx hb (dk DX10_bring 22 rfl) rfl (lv_at hl 1 rfl) ?_
      refine gX10_37 C hR ob0 rf0_5 (dk DX10_bring 23 rfl) ?_
      refine lv_iload_n hx hb (dk DX10_bring 24 rfl) rfl (lv_at hl 0 rfl) ?_
      obtain ⟨xq18, mq16, hzq17, hF⟩ := bnd_ex hF
      refine r_callVi (As := [.int xq12]) (rest := []) C hR (C_Ma_leadOf l hl0 G xq12 mq13 _ _ hzq17) (by decide) (by decide) ob16 rfl wX10_257 rfl rfl (Nat.le_of_ble_eq_true rfl) hl.1 ⟨Nat.zero_le _, Nat.zero_le _⟩ (dk DX10_bring 25 rfl) (fun H locs hR => ?_)
      cases hF
      exact x_iret C hrt hR (dk DX10_bring 26 rfl)
set_option maxHeartbeats 4000000 in
set_option maxRecDepth 100000 in
theorem C_T_mustBeState (l : Launch) (hl0 : l.stackTraces = false) (G : GG) (a1 : Int32) (a2 : Int32) (a3 : Int32) (a4 : Int32) (m0 : Mem) (v : Nat ⊕ Unit) (m' : Mem) (hF : F_T_mustBeState a1 a2 a3 a4 m0 = some (v, m')) : CtX l G mr0 N0 yX10_mustBeState cX10_mustBeState 5 none 9 [.ref (G.2.1 + 0), .int a1, .int a2, .int a3, .int a4] m0 (ouV v) m' := by
  refine CtX_of hl0 (by decide) (Nat.le_of_ble_eq_true rfl) ?_
  intro p e s mid args below meth c ls C hrt hex hl hR
  have hx := C.1.1
  have hb := C.1.2.1
  have hl : lv_has ls 5 [(0, .ref (G.2.1 + 0)), (1, .int a1), (2, .int a2), (3, .int a3), (4, .int a4)] := hl
  unfold F_T_mustBeState at hF
  refine lv_aload_n hx hb (dk DX10_mustBeState 0 rfl) rfl (lv_at hl 0 rfl) ?_
  refine lv_iload_n hx hb (dk DX10_mustBeState 1 rfl) rfl (lv_at hl 1 rfl) ?_
  refine lv_aload_n hx hb (dk DX10_mustBeState 2 rfl) rfl (lv_at hl 0 rfl) ?_
  refine gX10_31 C hR ob0 rf0_4 (dk DX10_mustBeState 3 rfl) ?_
  refine gX10_167 C hR ob3 (dk DX10_mustBeState 4 rfl) ?_
  refine lv_iconst (v := (1 : Int32)) hx hb (dk DX10_mustBeState 5 rfl) (by decide) ?_
  refine lv_iadd hx hb (dk DX10_mustBeState 6 rfl) ?_
  rcases bndX_ex hF with ⟨ke, mq1, hzq2, hF⟩ | ⟨uq3, mq1, hzq2, hF⟩
  · have hM := C_T_mustBeBelow l hl0 G a1 ((gI m0 3 0) + (1 : Int32)) m0 (Sum.inl ke) mq1 hzq2
    rw [show ouV (Sum.inl ke) = (Sum.inl ke : Ou) from rfl] at hM
    cases hF
    exact x_passV (d := 9) (k := ke) (As := [.int a1, .int ((gI m0 3 0) + (1 : Int32))]) (rest := []) C hex hR hM (by decide) (by decide) ob0 rfl wX10_149 rfl rfl (Nat.le_of_ble_eq_true rfl) hl.1 (dk DX10_mustBeState 7 rfl)
  · have hM := C_T_mustBeBelow l hl0 G a1 ((gI m0 3 0) + (1 : Int32)) m0 (Sum.inr uq3) mq1 hzq2
    rw [show ouV (Sum.inr uq3) = (Sum.inr none : Ou) from rfl] at hM
    refine x_callVv (As := [.int a1, .int ((gI m0 3 0) + (1 : Int32))]) (rest := []) C hR hM (by decide) (by decide) ob0 rfl wX10_149 rfl rfl (Nat.le_of_ble_eq_true rfl) hl.1 ⟨Nat.zero_le _, Nat.zero_le _⟩ (dk DX10_mustBeState 7 rfl) (fun H locs hR => ?_)
    refine lv_aload_n hx hb (dk DX10_mustBeState 8 rfl) rfl (lv_at hl 0 rfl) ?_
    refine lv_iload_n hx hb (dk DX10_mustBeState 9 rfl) rfl (lv_at hl 2 rfl) ?_
    refine lv_iconst (v := (4 : Int32)) hx hb (dk DX10_mustBeState 10 rfl) (by decide) ?_
    rcases bndX_ex hF with ⟨ke, mq4, hzq5, hF⟩ | ⟨uq6, mq4, hzq5, hF⟩
    · have hM := C_T_mustBeBelow l hl0 G a2 (4 : Int32) mq1 (Sum.inl ke) mq4 hzq5
      rw [show ouV (Sum.inl ke) = (Sum.inl ke : Ou) from rfl] at hM
      cases hF
      exact x_passV (d := 9) (k := ke) (As := [.int a2, .int (4 : Int32)]) (rest := []) C hex hR hM (by decide) (by decide) ob0 rfl wX10_149 rfl rfl (Nat.le_of_ble_eq_true rfl) hl.1 (dk DX10_mustBeState 11 rfl)
    · have hM := C_T_mustBeBelow l hl0 G a2 (4 : Int32) mq1 (Sum.inr uq6) mq4 hzq5
      rw [show ouV (Sum.inr uq6) = (Sum.inr none : Ou) from rfl] at hM
      refine x_callVv (As := [.int a2, .int (4 : Int32)]) (rest := []) C hR hM (by decide) (by decide) ob0 rfl wX10_149 rfl rfl (Nat.le_of_ble_eq_true rfl) hl.1 ⟨Nat.zero_le _, Nat.zero_le _⟩ (dk DX10_mustBeState 11 rfl) (fun H locs hR => ?_)
      refine lv_iload_n hx hb (dk DX10_mustBeState 12 rfl) rfl (lv_at hl 3 rfl) ?_
      refine lv_bipush (v := (-81 : Int32)) hx hb (dk DX10_mustBeState 13 rfl) (by decide) ?_
      obtain ⟨k44_7, ek44_7, hF⟩ := lt_ex hF
      have J44 : ∀ (mq7 : Mem) (H : Heap) (locs : List Loc) (ls : Array Slot), lv_has ls 5 [] → Rp G mr0 N0 mq7 s H locs → k44_7  mq7 = some (v, m') → W p l e (rmX 9 (ouV v)) s mid args below meth c H locs 0 0 (ZX below G mr0 N0 (ouV v) m' args s) (F0 mid 44 ls []) := by
        intro  mq7 H locs ls hl hR hF
        rw [ek44_7] at hF
        cases hF
        exact r_throwW (d := 9) (k := 1) C hex hR tX10_113 strm_X10_424 (by decide) (Nat.le_of_ble_eq_true rfl) hl.1 (dk DX10_mustBeState 23 rfl) (dk DX10_mustBeState 24 rfl) (dk DX10_mustBeState 25 rfl) (dk DX10_mustBeState 26 rfl) (dk DX10_mustBeState 27 rfl)
      refine lv_icmp_lt (tgt := 44) hx hb (dk DX10_mustBeState 14 rfl) (by decide) (fun c23 => ?_) (fun c23 => ?_)
      · have hF := if_t c23 hF
        exact J44 mq4 _ _ ls (lv_sub hl [] rfl) hR hF
      · have hF := if_f c23 hF
        refine lv_iload_n hx hb (dk DX10_mustBeState 15 rfl) rfl (lv_at hl 3 rfl) ?_
        refine lv_bipush (v := (81 : Int32)) hx hb (dk DX10_mustBeState 16 rfl) (by decide) ?_
        refine lv_icmp_gt (tgt := 44) hx hb (dk DX10_mustBeState 17 rfl) (by decide) (fun c29 => ?_) (fun c29 => ?_)
        · have hF := if_t c29 hF
          exact J44 mq4 _ _ ls (lv_sub hl [] rfl) hR hF
        · have hF := if_f c29 hF
          refine lv_iload hx hb (dk DX10_mustBeState 18 rfl) (lv_at hl 4 rfl) ?_
          refine lv_if_lt (tgt := 44) hx hb (dk DX10_mustBeState 19 rfl) (by decide) (fun c34 => ?_) (fun c34 => ?_)
          · have hF := if_t c34 hF
            exact J44 mq4 _ _ ls (lv_sub hl [] rfl) hR hF
          · have hF := if_f c34 hF
            refine lv_iload hx hb (dk DX10_mustBeState 20 rfl) (lv_at hl 4 rfl) ?_
            refine lv_bipush (v := (10 : Int32)) hx hb (dk DX10_mustBeState 21 rfl) (by decide) ?_
            refine lv_icmp_lt (tgt := 55) hx hb (dk DX10_mustBeState 22 rfl) (by decide) (fun c41 => ?_) (fun c41 => ?_)
            · have hF := if_t c41 hF
              cases hF
              exact x_vret C hrt hR (dk DX10_mustBeState 28 rfl)
            · have hF := if_f c41 hF
              exact J44 mq4 _ _ ls (lv_sub hl [] rfl) hR hF
set_option maxHeartbeats 4000000 in
set_option maxRecDepth 100000 in
theorem C_T_winsOf (l : Launch) (hl0 : l.stackTraces = false) (G : GG) (a1 : Int32) (a2 : Int32) (a3 : Int32) (a4 : Int32) (a5 : Int32) (m0 : Mem) (v : Int64) (m' : Mem) (hF : F_T_winsOf a1 a2 a3 a4 a5 m0 = some (v, m')) : Ct l G mr0 N0 yX10_winsOf cX10_winsOf 9 (some .long) 287 [.ref (G.2.1 + 0), .int a1, .int a2, .int a3, .int a4, .int a5] m0 (some (.long v)) m' := by
  refine Ct_of hl0 (by decide) (Nat.le_of_ble_eq_true rfl) ?_
  intro p e s mid args below meth c ls C hrt hl hR
  have hx := C.1.1
  have hb := C.1.2.1
  have hl : lv_has ls 9 [(0, .ref (G.2.1 + 0)), (1, .int a1), (2, .int a2), (3, .int a3), (4, .int a4), (5, .int a5)] := hl
  unfold F_T_winsOf at hF
  refine lv_iload_n hx hb (dk DX10_winsOf 0 rfl) rfl (lv_at hl 2 rfl) ?_
  obtain ⟨zq3, mq1, hzq2, hF⟩ := bnd_ex hF
  refine r_callSi (As := [.int a2]) (rest := []) C hR (C_Od_firstBats l hl0 G a2 m0 _ _ hzq2) (by decide) (by decide) wX10_331 rfl rfl (Nat.le_of_ble_eq_true rfl) hl.1 ⟨Nat.zero_le _, Nat.zero_le _⟩ (dk DX10_winsOf 1 rfl) (fun H locs hR => ?_)
  refine lv_istore (lv' := [(6, .int (b2i zq3)), (0, .ref (G.2.1 + 0)), (1, .int a1), (2, .int a2), (3, .int a3), (4, .int a4), (5, .int a5)]) hx hb (dk DX10_winsOf 2 rfl) hl (by decide) rfl (fun ls hl => ?_)
  refine lv_aload_n hx hb (dk DX10_winsOf 3 rfl) rfl (lv_at hl 1 rfl) ?_
  refine gX10_23 C hR ob0 rf0_3 (dk DX10_winsOf 4 rfl) ?_
  refine lv_iload_n hx hb (dk DX10_winsOf 5 rfl) rfl (lv_at hl 2 rfl) ?_
  refine lv_iload_n hx hb (dk DX10_winsOf 6 rfl) rfl (lv_at hl 3 rfl) ?_
  refine lv_iload hx hb (dk DX10_winsOf 7 rfl) (lv_at hl 5 rfl) ?_
  refine lv_iload hx hb (dk DX10_winsOf 8 rfl) (lv_at hl 0 rfl) ?_
  obtain ⟨k25_5, ek25_5, hF⟩ := lt_ex hF
  have J25 : ∀ (xq5 : Int32) (mq4 : Mem) (H : Heap) (locs : List Loc) (ls : Array Slot), lv_has ls 9 [(0, .ref (G.2.1 + 0)), (1, .int a1), (5, .int a5), (6, .int (b2i zq3))] → Rp G mr0 N0 mq4 s H locs → k25_5 xq5 mq4 = some (v, m') → W p l e (rmD 287) s mid args below meth c H locs 0 0 (MQ below (QR G mr0 N0 (some (.long v)) m') args s 0 0 (fun q => G.2.1 ≤ q)) (F0 mid 25 ls [.int xq5, .int a4, .int a2, .int a1, .ref (G.2.1 + 2)]) := by
    intro xq5 mq4 H locs ls hl hR hF
    rw [ek25_5] at hF
    obtain ⟨yq8, mq6, hzq7, hF⟩ := bnd_ex hF
    refine r_callVl (As := [.int a1, .int a2, .int a4, .int xq5]) (rest := []) C hR (C_Od_waysFrom l hl0 G a1 a2 a4 xq5 mq4 _ _ hzq7) (by decide) (by decide) ob2 rfl wX10_432 rfl rfl (Nat.le_of_ble_eq_true rfl) hl.1 ⟨Nat.zero_le _, Nat.zero_le _⟩ (dk DX10_winsOf 14 rfl) (fun H locs hR => ?_)
    refine lv_lstore (lv' := [(7, .long yq8), (0, .ref (G.2.1 + 0)), (1, .int a1), (5, .int a5), (6, .int (b2i zq3))]) hx hb (dk DX10_winsOf 15 rfl) hl (by decide) rfl (fun ls hl => ?_)
    refine lv_iload hx hb (dk DX10_winsOf 16 rfl) (lv_at hl 3 rfl) ?_
    refine lv_iconst (v := (2 : Int32)) hx hb (dk DX10_winsOf 17 rfl) (by decide) ?_
    refine lv_icmp_ne (tgt := 48) hx hb (dk DX10_winsOf 18 rfl) (by decide) (fun c33 => ?_) (fun c33 => ?_)
    · have hF := if_f c33 hF
      refine lv_lload hx hb (dk DX10_winsOf 26 rfl) (lv_at hl 0 rfl) ?_
      refine lv_iload hx hb (dk DX10_winsOf 27 rfl) (lv_at hl 4 rfl) ?_
      refine lv_iload hx hb (dk DX10_winsOf 28 rfl) (lv_at hl 3 rfl) ?_
      obtain ⟨k62_10, ek62_10, hF⟩ := lt_ex hF
      have J62 : ∀ (zq10 : Bool) (mq9 : Mem) (H : Heap) (locs : List Loc) (ls : Array Slot), lv_has ls 9 [] → Rp G mr0 N0 mq9 s H locs → k62_10 zq10 mq9 = some (v, m') → W p l e (rmD 287) s mid args below meth c H locs 0 0 (MQ below (QR G mr0 N0 (some (.long v)) m') args s 0 0 (fun q => G.2.1 ≤ q)) (F0 mid 62 ls [.int (b2i zq10), .int (b2i zq3), .long yq8]) := by
        intro zq10 mq9 H locs ls hl hR hF
        rw [ek62_10] at hF
        obtain ⟨k70_12, ek70_12, hF⟩ := lt_ex hF
        have J70 : ∀ (zq12 : Bool) (mq11 : Mem) (H : Heap) (locs : List Loc) (ls : Array Slot), lv_has ls 9 [] → Rp G mr0 N0 mq11 s H locs → k70_12 zq12 mq11 = some (v, m') → W p l e (rmD 287) s mid args below meth c H locs 0 0 (MQ below (QR G mr0 N0 (some (.long v)) m') args s 0 0 (fun q => G.2.1 ≤ q)) (F0 mid 70 ls [.int (b2i zq12), .long yq8]) := by
          intro zq12 mq11 H locs ls hl hR hF
          rw [ek70_12] at hF
          obtain ⟨yq15, mq13, hzq14, hF⟩ := bnd_ex hF
          refine r_callSl (As := [.long yq8, .int (b2i zq12)]) (rest := []) C hR (C_Od_waysOf l hl0 G yq8 zq12 mq11 _ _ hzq14) (by decide) (by decide) wX10_448 rfl rfl (Nat.le_of_ble_eq_true rfl) hl.1 ⟨Nat.zero_le _, Nat.zero_le _⟩ (dk DX10_winsOf 37 rfl) (fun H locs hR => ?_)
          cases hF
          exact r_lret C hrt hR (dk DX10_winsOf 38 rfl)
        refine lv_icmp_ne (tgt := 69) hx hb (dk DX10_winsOf 33 rfl) (by decide) (fun c62 => ?_) (fun c62 => ?_)
        · have hF := if_f c62 hF
          refine lv_iconst (v := (0 : Int32)) hx hb (dk DX10_winsOf 36 rfl) (by decide) ?_
          exact J70 false mq9 _ _ ls (lv_sub hl [] rfl) hR hF
        · have hF := if_t c62 hF
          refine lv_iconst (v := (1 : Int32)) hx hb (dk DX10_winsOf 34 rfl) (by decide) ?_
          refine lv_goto (tgt := 70) hx hb (dk DX10_winsOf 35 rfl) (by decide) ?_
          exact J70 true mq9 _ _ ls (lv_sub hl [] rfl) hR hF
      refine lv_if_ne (tgt := 61) hx hb (dk DX10_winsOf 29 rfl) (by decide) (fun c54 => ?_) (fun c54 => ?_)
      · have hF := if_f c54 hF
        refine lv_iconst (v := (0 : Int32)) hx hb (dk DX10_winsOf 32 rfl) (by decide) ?_
        exact J62 false mq6 _ _ ls (lv_sub hl [] rfl) hR hF
      · have hF := if_t c54 hF
        refine lv_iconst (v := (1 : Int32)) hx hb (dk DX10_winsOf 30 rfl) (by decide) ?_
        refine lv_goto (tgt := 62) hx hb (dk DX10_winsOf 31 rfl) (by decide) ?_
        exact J62 true mq6 _ _ ls (lv_sub hl [] rfl) hR hF
    · have hF := if_t c33 hF
      refine lv_aload_n hx hb (dk DX10_winsOf 19 rfl) rfl (lv_at hl 1 rfl) ?_
      refine gX10_23 C hR ob0 rf0_3 (dk DX10_winsOf 20 rfl) ?_
      refine lv_lload hx hb (dk DX10_winsOf 21 rfl) (lv_at hl 0 rfl) ?_
      refine lv_iload_n hx hb (dk DX10_winsOf 22 rfl) rfl (lv_at hl 2 rfl) ?_
      refine lv_iconst (v := (2 : Int32)) hx hb (dk DX10_winsOf 23 rfl) (by decide) ?_
      obtain ⟨yq18, mq16, hzq17, hF⟩ := bnd_ex hF
      refine r_callVl (As := [.long yq8, .int a1, .int (2 : Int32)]) (rest := []) C hR (C_Od_part l hl0 G yq8 a1 (2 : Int32) mq6 _ _ hzq17) (by decide) (by decide) ob2 rfl wX10_306 rfl rfl (Nat.le_of_ble_eq_true rfl) hl.1 ⟨Nat.zero_le _, Nat.zero_le _⟩ (dk DX10_winsOf 24 rfl) (fun H locs hR => ?_)
      cases hF
      exact r_lret C hrt hR (dk DX10_winsOf 25 rfl)
  refine z_ifeq (tgt := 23) hx hb (dk DX10_winsOf 9 rfl) (by decide) (fun c16 => ?_) (fun c16 => ?_)
  · have hF := if_f c16 hF
    refine lv_iload_n hx hb (dk DX10_winsOf 12 rfl) rfl (lv_at hl 4 rfl) ?_
    refine lv_ineg hx hb (dk DX10_winsOf 13 rfl) ?_
    exact J25 (-a3) mq1 _ _ ls (lv_sub hl [1, 2, 6, 0] rfl) hR hF
  · have hF := if_t c16 hF
    refine lv_iload_n hx hb (dk DX10_winsOf 10 rfl) rfl (lv_at hl 4 rfl) ?_
    refine lv_goto (tgt := 25) hx hb (dk DX10_winsOf 11 rfl) (by decide) ?_
    exact J25 a3 mq1 _ _ ls (lv_sub hl [1, 2, 6, 0] rfl) hR hF
set_option maxHeartbeats 4000000 in
set_option maxRecDepth 100000 in
theorem C_T_chased (l : Launch) (hl0 : l.stackTraces = false) (G : GG) (a1 : Int32) (m0 : Mem) (v : Nat ⊕ Int32) (m' : Mem) (hF : F_T_chased a1 m0 = some (v, m')) : CtX l G mr0 N0 yX10_chased cX10_chased 4 (some .int) 288 [.ref (G.2.1 + 0), .int a1] m0 (ouI v) m' := by
  refine CtX_of hl0 (by decide) (Nat.le_of_ble_eq_true rfl) ?_
  intro p e s mid args below meth c ls C hrt hex hl hR
  have hx := C.1.1
  have hb := C.1.2.1
  have hl : lv_has ls 4 [(0, .ref (G.2.1 + 0)), (1, .int a1)] := hl
  unfold F_T_chased at hF
  refine lv_aload_n hx hb (dk DX10_chased 0 rfl) rfl (lv_at hl 0 rfl) ?_
  refine lv_iload_n hx hb (dk DX10_chased 1 rfl) rfl (lv_at hl 1 rfl) ?_
  refine lv_iconst (v := (3 : Int32)) hx hb (dk DX10_chased 2 rfl) (by decide) ?_
  refine lv_iconst (v := (0 : Int32)) hx hb (dk DX10_chased 3 rfl) (by decide) ?_
  refine lv_iconst (v := (0 : Int32)) hx hb (dk DX10_chased 4 rfl) (by decide) ?_
  rcases bndX_ex hF with ⟨ke, mq1, hzq2, hF⟩ | ⟨uq3, mq1, hzq2, hF⟩
  · have hM := C_T_mustBeState l hl0 G a1 (3 : Int32) (0 : Int32) (0 : Int32) m0 (Sum.inl ke) mq1 hzq2
    rw [show ouV (Sum.inl ke) = (Sum.inl ke : Ou) from rfl] at hM
    cases hF
    exact x_passV (d := 288) (k := ke) (As := [.int a1, .int (3 : Int32), .int (0 : Int32), .int (0 : Int32)]) (rest := []) C hex hR hM (by decide) (by decide) ob0 rfl wX10_361 rfl rfl (Nat.le_of_ble_eq_true rfl) hl.1 (dk DX10_chased 5 rfl)
  · have hM := C_T_mustBeState l hl0 G a1 (3 : Int32) (0 : Int32) (0 : Int32) m0 (Sum.inr uq3) mq1 hzq2
    rw [show ouV (Sum.inr uq3) = (Sum.inr none : Ou) from rfl] at hM
    refine x_callVv (As := [.int a1, .int (3 : Int32), .int (0 : Int32), .int (0 : Int32)]) (rest := []) C hR hM (by decide) (by decide) ob0 rfl wX10_361 rfl rfl (Nat.le_of_ble_eq_true rfl) hl.1 ⟨Nat.zero_le _, Nat.zero_le _⟩ (dk DX10_chased 5 rfl) (fun H locs hR => ?_)
    refine lv_aload_n hx hb (dk DX10_chased 6 rfl) rfl (lv_at hl 0 rfl) ?_
    refine gX10_23 C hR ob0 rf0_3 (dk DX10_chased 7 rfl) ?_
    refine lv_iconst (v := (0 : Int32)) hx hb (dk DX10_chased 8 rfl) (by decide) ?_
    refine lv_aload_n hx hb (dk DX10_chased 9 rfl) rfl (lv_at hl 0 rfl) ?_
    refine gX10_31 C hR ob0 rf0_4 (dk DX10_chased 10 rfl) ?_
    refine gX10_200 C hR ob3 (dk DX10_chased 11 rfl) ?_
    refine lv_iconst (v := (0 : Int32)) hx hb (dk DX10_chased 12 rfl) (by decide) ?_
    obtain ⟨uq6, mq4, hzq5, hF⟩ := bnd_ex hF
    refine r_callVv (As := [.int (0 : Int32), .int (gI mq1 3 5), .int (b2i false)]) (rest := []) C hR (C_Od_ready l hl0 G (0 : Int32) (gI mq1 3 5) false mq1 _ _ hzq5) (by decide) (by decide) ob2 rfl wX10_327 rfl rfl (Nat.le_of_ble_eq_true rfl) hl.1 ⟨Nat.zero_le _, Nat.zero_le _⟩ (dk DX10_chased 13 rfl) (fun H locs hR => ?_)
    refine lv_iconst (v := (3 : Int32)) hx hb (dk DX10_chased 14 rfl) (by decide) ?_
    refine lv_iconst (v := (0 : Int32)) hx hb (dk DX10_chased 15 rfl) (by decide) ?_
    obtain ⟨xq9, mq7, hzq8, hF⟩ := bnd_ex hF
    refine r_callSi (As := [.int (3 : Int32), .int (b2i false)]) (rest := []) C hR (C_Od_kindOf l hl0 G (3 : Int32) false mq4 _ _ hzq8) (by decide) (by decide) wX10_365 rfl rfl (Nat.le_of_ble_eq_true rfl) hl.1 ⟨Nat.zero_le _, Nat.zero_le _⟩ (dk DX10_chased 16 rfl) (fun H locs hR => ?_)
    refine lv_istore_n (lv' := [(2, .int xq9), (0, .ref (G.2.1 + 0)), (1, .int a1)]) hx hb (dk DX10_chased 17 rfl) rfl hl (by decide) rfl (fun ls hl => ?_)
    refine lv_bipush (v := (81 : Int32)) hx hb (dk DX10_chased 18 rfl) (by decide) ?_
    refine lv_istore_n (lv' := [(3, .int (81 : Int32)), (2, .int xq9), (0, .ref (G.2.1 + 0)), (1, .int a1)]) hx hb (dk DX10_chased 19 rfl) rfl hl (by decide) rfl (fun ls hl => ?_)
    have L33 : ∀ (nf : Nat) (xq11 : Int32) (mq10 : Mem) (H : Heap) (locs : List Loc) (ls : Array Slot), lv_has ls 4 [(0, .ref (G.2.1 + 0)), (1, .int a1), (2, .int xq9), (3, .int xq11)] → Rp G mr0 N0 mq10 s H locs → F_T_chased_L33 a1 xq9 nf xq11 mq10 = some (v, m') → W p l e (rmX 288 (ouI v)) s mid args below meth c H locs 0 0 (ZX below G mr0 N0 (ouI v) m' args s) (F0 mid 33 ls []) := by
      intro nf
      induction nf with
      | zero =>
        intro xq11 mq10 H locs ls hl hR hF
        rw [F_T_chased_L33] at hF
        cases hF
      | succ nf ihq13 =>
        intro xq11 mq10 H locs ls hl hR hF
        rw [F_T_chased_L33] at hF
        refine lv_iload_n hx hb (dk DX10_chased 20 rfl) rfl (lv_at hl 3 rfl) ?_
        refine lv_if_lt (tgt := 69) hx hb (dk DX10_chased 21 rfl) (by decide) (fun c34 => ?_) (fun c34 => ?_)
        · have hF := if_t c34 hF
          refine lv_iconst (v := (-1 : Int32)) hx hb (dk DX10_chased 44 rfl) (by decide) ?_
          cases hF
          exact x_iret C hrt hR (dk DX10_chased 45 rfl)
        · have hF := if_f c34 hF
          refine lv_aload_n hx hb (dk DX10_chased 22 rfl) rfl (lv_at hl 0 rfl) ?_
          refine lv_iload_n hx hb (dk DX10_chased 23 rfl) rfl (lv_at hl 1 rfl) ?_
          refine lv_iload_n hx hb (dk DX10_chased 24 rfl) rfl (lv_at hl 2 rfl) ?_
          refine lv_iload_n hx hb (dk DX10_chased 25 rfl) rfl (lv_at hl 3 rfl) ?_
          refine lv_ineg hx hb (dk DX10_chased 26 rfl) ?_
          refine lv_iconst (v := (0 : Int32)) hx hb (dk DX10_chased 27 rfl) (by decide) ?_
          refine lv_iconst (v := (0 : Int32)) hx hb (dk DX10_chased 28 rfl) (by decide) ?_
          obtain ⟨yq16, mq14, hzq15, hF⟩ := bnd_ex hF
          refine r_callVl (As := [.int a1, .int xq9, .int (-xq11), .int (0 : Int32), .int (0 : Int32)]) (rest := []) C hR (C_T_winsOf l hl0 G a1 xq9 (-xq11) (0 : Int32) (0 : Int32) mq10 _ _ hzq15) (by decide) (by decide) ob0 rfl wX10_369 rfl rfl (Nat.le_of_ble_eq_true rfl) hl.1 ⟨Nat.zero_le _, Nat.zero_le _⟩ (dk DX10_chased 29 rfl) (fun H locs hR => ?_)
          refine lv_aload_n hx hb (dk DX10_chased 30 rfl) rfl (lv_at hl 0 rfl) ?_
          refine lv_iload_n hx hb (dk DX10_chased 31 rfl) rfl (lv_at hl 1 rfl) ?_
          refine lv_iload_n hx hb (dk DX10_chased 32 rfl) rfl (lv_at hl 2 rfl) ?_
          refine lv_iload_n hx hb (dk DX10_chased 33 rfl) rfl (lv_at hl 3 rfl) ?_
          refine lv_ineg hx hb (dk DX10_chased 34 rfl) ?_
          refine lv_iconst (v := (0 : Int32)) hx hb (dk DX10_chased 35 rfl) (by decide) ?_
          refine lv_iconst (v := (1 : Int32)) hx hb (dk DX10_chased 36 rfl) (by decide) ?_
          obtain ⟨yq19, mq17, hzq18, hF⟩ := bnd_ex hF
          refine r_callVl (As := [.int a1, .int xq9, .int (-xq11), .int (0 : Int32), .int (1 : Int32)]) (rest := [.long yq16]) C hR (C_T_winsOf l hl0 G a1 xq9 (-xq11) (0 : Int32) (1 : Int32) mq14 _ _ hzq18) (by decide) (by decide) ob0 rfl wX10_369 rfl rfl (Nat.le_of_ble_eq_true rfl) hl.1 ⟨Nat.zero_le _, Nat.zero_le _⟩ (dk DX10_chased 37 rfl) (fun H locs hR => ?_)
          refine l_iflt (tgt := 63) hx hb (dk DX10_chased 38 rfl) (dk DX10_chased 39 rfl) (by decide) (fun c57 => ?_) (fun c57 => ?_)
          · have hF := if_t c57 hF
            obtain ⟨xq20, exq20, hF⟩ := lt_ex hF
            refine lv_iinc (v := xq20) (lv' := [(3, .int xq20), (0, .ref (G.2.1 + 0)), (1, .int a1), (2, .int xq9)]) hx hb (dk DX10_chased 42 rfl) hl (k := 3) rfl (by rw [exq20]; rfl) (by decide) rfl (fun ls hl => ?_)
            refine lv_goto (tgt := 33) hx hb (dk DX10_chased 43 rfl) (by decide) ?_
            exact ihq13 xq20 mq17 _ _ ls (lv_sub hl [1, 2, 3, 0] rfl) hR hF
          · have hF := if_f c57 hF
            refine lv_iload_n hx hb (dk DX10_chased 40 rfl) rfl (lv_at hl 3 rfl) ?_
            cases hF
            exact x_iret C hrt hR (dk DX10_chased 41 rfl)
    exact L33 1000000 (81 : Int32) mq7 _ _ ls (lv_sub hl [2, 3, 1, 0] rfl) hR hF
set_option maxHeartbeats 4000000 in
set_option maxRecDepth 100000 in
theorem C_Od_waysByChoice (l : Launch) (hl0 : l.stackTraces = false) (G : GG) (a1 : Bool) (a2 : Int32) (a3 : Int32) (a4 : Int32) (a5 : Int32) (m0 : Mem) (v : Int64) (m' : Mem) (hF : F_Od_waysByChoice a1 a2 a3 a4 a5 m0 = some (v, m')) : Ct l G mr0 N0 yX7_waysByChoice cX7_waysByChoice 6 (some .long) 291 [.ref (G.2.1 + 2), .int (b2i a1), .int a2, .int a3, .int a4, .int a5] m0 (some (.long v)) m' := by
  refine Ct_of hl0 (by decide) (Nat.le_of_ble_eq_true rfl) ?_
  intro p e s mid args below meth c ls C hrt hl hR
  have hx := C.1.1
  have hb := C.1.2.1
  have hl : lv_has ls 6 [(0, .ref (G.2.1 + 2)), (1, .int (b2i a1)), (2, .int a2), (3, .int a3), (4, .int a4), (5, .int a5)] := hl
  unfold F_Od_waysByChoice at hF
  refine lv_iload_n hx hb (dk DX7_waysByChoice 0 rfl) rfl (lv_at hl 1 rfl) ?_
  refine z_ifeq (tgt := 17) hx hb (dk DX7_waysByChoice 1 rfl) (by decide) (fun c1 => ?_) (fun c1 => ?_)
  · have hF := if_f c1 hF
    refine lv_aload_n hx hb (dk DX7_waysByChoice 9 rfl) rfl (lv_at hl 0 rfl) ?_
    refine lv_iload_n hx hb (dk DX7_waysByChoice 10 rfl) rfl (lv_at hl 2 rfl) ?_
    refine lv_iload_n hx hb (dk DX7_waysByChoice 11 rfl) rfl (lv_at hl 3 rfl) ?_
    refine lv_iload hx hb (dk DX7_waysByChoice 12 rfl) (lv_at hl 4 rfl) ?_
    refine lv_iload hx hb (dk DX7_waysByChoice 13 rfl) (lv_at hl 5 rfl) ?_
    obtain ⟨yq3, mq1, hzq2, hF⟩ := bnd_ex hF
    refine r_callVl (As := [.int a2, .int a3, .int a4, .int a5]) (rest := []) C hR (C_Od_waysGoingOn l hl0 G _ (F_Od_waysAt 40) (C_Od_waysAt l hl0 G 40) (by omega) a2 a3 a4 a5 m0 _ _ hzq2) (by decide) (by decide) ob2 rfl wX7_92 rfl rfl (Nat.le_of_ble_eq_true rfl) hl.1 ⟨Nat.zero_le _, Nat.zero_le _⟩ (dk DX7_waysByChoice 14 rfl) (fun H locs hR => ?_)
    cases hF
    exact r_lret C hrt hR (dk DX7_waysByChoice 15 rfl)
  · have hF := if_t c1 hF
    refine lv_aload_n hx hb (dk DX7_waysByChoice 2 rfl) rfl (lv_at hl 0 rfl) ?_
    refine lv_iload_n hx hb (dk DX7_waysByChoice 3 rfl) rfl (lv_at hl 2 rfl) ?_
    refine lv_iload_n hx hb (dk DX7_waysByChoice 4 rfl) rfl (lv_at hl 3 rfl) ?_
    refine lv_iload hx hb (dk DX7_waysByChoice 5 rfl) (lv_at hl 4 rfl) ?_
    refine lv_iload hx hb (dk DX7_waysByChoice 6 rfl) (lv_at hl 5 rfl) ?_
    obtain ⟨yq6, mq4, hzq5, hF⟩ := bnd_ex hF
    refine r_callVl (As := [.int a2, .int a3, .int a4, .int a5]) (rest := []) C hR (C_Od_waysOtherwise l hl0 G _ (F_Od_waysAt 40) (C_Od_waysAt l hl0 G 40) (by omega) a2 a3 a4 a5 m0 _ _ hzq5) (by decide) (by decide) ob2 rfl wX7_99 rfl rfl (Nat.le_of_ble_eq_true rfl) hl.1 ⟨Nat.zero_le _, Nat.zero_le _⟩ (dk DX7_waysByChoice 7 rfl) (fun H locs hR => ?_)
    refine lv_goto (tgt := 27) hx hb (dk DX7_waysByChoice 8 rfl) (by decide) ?_
    cases hF
    exact r_lret C hrt hR (dk DX7_waysByChoice 15 rfl)
set_option maxHeartbeats 4000000 in
set_option maxRecDepth 100000 in
theorem C_T_cost (l : Launch) (hl0 : l.stackTraces = false) (G : GG) (a1 : Int32) (m0 : Mem) (v : Nat ⊕ Int64) (m' : Mem) (hF : F_T_cost a1 m0 = some (v, m')) : CtX l G mr0 N0 yX10_cost cX10_cost 15 (some .long) 292 [.ref (G.2.1 + 0), .int a1] m0 (ouL v) m' := by
  refine CtX_of hl0 (by decide) (Nat.le_of_ble_eq_true rfl) ?_
  intro p e s mid args below meth c ls C hrt hex hl hR
  have hx := C.1.1
  have hb := C.1.2.1
  have hl : lv_has ls 15 [(0, .ref (G.2.1 + 0)), (1, .int a1)] := hl
  unfold F_T_cost at hF
  refine lv_iload_n hx hb (dk DX10_cost 0 rfl) rfl (lv_at hl 1 rfl) ?_
  obtain ⟨k9_1, ek9_1, hF⟩ := lt_ex hF
  have J9 : ∀ (mq1 : Mem) (H : Heap) (locs : List Loc) (ls : Array Slot), lv_has ls 15 [] → Rp G mr0 N0 mq1 s H locs → k9_1  mq1 = some (v, m') → W p l e (rmX 292 (ouL v)) s mid args below meth c H locs 0 0 (ZX below G mr0 N0 (ouL v) m' args s) (F0 mid 9 ls []) := by
    intro  mq1 H locs ls hl hR hF
    rw [ek9_1] at hF
    cases hF
    exact r_throwW (d := 292) (k := 1) C hex hR tX10_113 strm_X10_314 (by decide) (Nat.le_of_ble_eq_true rfl) hl.1 (dk DX10_cost 5 rfl) (dk DX10_cost 6 rfl) (dk DX10_cost 7 rfl) (dk DX10_cost 8 rfl) (dk DX10_cost 9 rfl)
  refine lv_if_lt (tgt := 9) hx hb (dk DX10_cost 1 rfl) (by decide) (fun c1 => ?_) (fun c1 => ?_)
  · have hF := if_t c1 hF
    exact J9 m0 _ _ ls (lv_sub hl [] rfl) hR hF
  · have hF := if_f c1 hF
    refine lv_iload_n hx hb (dk DX10_cost 2 rfl) rfl (lv_at hl 1 rfl) ?_
    refine lv_iconst (v := (3 : Int32)) hx hb (dk DX10_cost 3 rfl) (by decide) ?_
    refine lv_icmp_le (tgt := 20) hx hb (dk DX10_cost 4 rfl) (by decide) (fun c6 => ?_) (fun c6 => ?_)
    · have hF := if_t c6 hF
      refine lv_aload_n hx hb (dk DX10_cost 10 rfl) rfl (lv_at hl 0 rfl) ?_
      rcases bndX_ex hF with ⟨ke, mq2, hzq3, hF⟩ | ⟨uq4, mq2, hzq3, hF⟩
      · have hM := C_T_mustBeOn l hl0 G m0 (Sum.inl ke) mq2 hzq3
        rw [show ouV (Sum.inl ke) = (Sum.inl ke : Ou) from rfl] at hM
        cases hF
        exact x_passV (d := 292) (k := ke) (As := []) (rest := []) C hex hR hM (by decide) (by decide) ob0 rfl wX10_247 rfl rfl (Nat.le_of_ble_eq_true rfl) hl.1 (dk DX10_cost 11 rfl)
      · have hM := C_T_mustBeOn l hl0 G m0 (Sum.inr uq4) mq2 hzq3
        rw [show ouV (Sum.inr uq4) = (Sum.inr none : Ou) from rfl] at hM
        refine x_callVv (As := []) (rest := []) C hR hM (by decide) (by decide) ob0 rfl wX10_247 rfl rfl (Nat.le_of_ble_eq_true rfl) hl.1 ⟨Nat.zero_le _, Nat.zero_le _⟩ (dk DX10_cost 11 rfl) (fun H locs hR => ?_)
        refine lv_aload_n hx hb (dk DX10_cost 12 rfl) rfl (lv_at hl 0 rfl) ?_
        refine gX10_37 C hR ob0 rf0_5 (dk DX10_cost 13 rfl) ?_
        obtain ⟨xq7, mq5, hzq6, hF⟩ := bnd_ex hF
        refine r_callVi (As := []) (rest := []) C hR (C_Ma_kind l hl0 G mq2 _ _ hzq6) (by decide) (by decide) ob16 rfl wX10_316 rfl rfl (Nat.le_of_ble_eq_true rfl) hl.1 ⟨Nat.zero_le _, Nat.zero_le _⟩ (dk DX10_cost 14 rfl) (fun H locs hR => ?_)
        refine lv_istore_n (lv' := [(2, .int xq7), (0, .ref (G.2.1 + 0)), (1, .int a1)]) hx hb (dk DX10_cost 15 rfl) rfl hl (by decide) rfl (fun ls hl => ?_)
        refine lv_aload_n hx hb (dk DX10_cost 16 rfl) rfl (lv_at hl 1 rfl) ?_
        refine gX10_37 C hR ob0 rf0_5 (dk DX10_cost 17 rfl) ?_
        obtain ⟨xq10, mq8, hzq9, hF⟩ := bnd_ex hF
        refine r_callVi (As := []) (rest := []) C hR (C_Ma_spot l hl0 G mq5 _ _ hzq9) (by decide) (by decide) ob16 rfl wX10_319 rfl rfl (Nat.le_of_ble_eq_true rfl) hl.1 ⟨Nat.zero_le _, Nat.zero_le _⟩ (dk DX10_cost 18 rfl) (fun H locs hR => ?_)
        refine lv_istore_n (lv' := [(3, .int xq10), (2, .int xq7), (0, .ref (G.2.1 + 0)), (1, .int a1)]) hx hb (dk DX10_cost 19 rfl) rfl hl (by decide) rfl (fun ls hl => ?_)
        refine lv_aload_n hx hb (dk DX10_cost 20 rfl) rfl (lv_at hl 2 rfl) ?_
        refine gX10_37 C hR ob0 rf0_5 (dk DX10_cost 21 rfl) ?_
        refine lv_aload_n hx hb (dk DX10_cost 22 rfl) rfl (lv_at hl 2 rfl) ?_
        refine gX10_37 C hR ob0 rf0_5 (dk DX10_cost 23 rfl) ?_
        refine gX10_93 C hR ob16 (dk DX10_cost 24 rfl) ?_
        obtain ⟨xq13, mq11, hzq12, hF⟩ := bnd_ex hF
        refine r_callVi (As := [.int (gI mq8 16 0)]) (rest := []) C hR (C_Ma_leadOf l hl0 G (gI mq8 16 0) mq8 _ _ hzq12) (by decide) (by decide) ob16 rfl wX10_257 rfl rfl (Nat.le_of_ble_eq_true rfl) hl.1 ⟨Nat.zero_le _, Nat.zero_le _⟩ (dk DX10_cost 25 rfl) (fun H locs hR => ?_)
        refine lv_istore (lv' := [(4, .int xq13), (3, .int xq10), (2, .int xq7), (0, .ref (G.2.1 + 0)), (1, .int a1)]) hx hb (dk DX10_cost 26 rfl) hl (by decide) rfl (fun ls hl => ?_)
        refine lv_aload_n hx hb (dk DX10_cost 27 rfl) rfl (lv_at hl 3 rfl) ?_
        refine gX10_23 C hR ob0 rf0_3 (dk DX10_cost 28 rfl) ?_
        refine lv_iload_n hx hb (dk DX10_cost 29 rfl) rfl (lv_at hl 2 rfl) ?_
        refine lv_iload_n hx hb (dk DX10_cost 30 rfl) rfl (lv_at hl 1 rfl) ?_
        refine lv_iload hx hb (dk DX10_cost 31 rfl) (lv_at hl 0 rfl) ?_
        obtain ⟨xq16, mq14, hzq15, hF⟩ := bnd_ex hF
        refine r_callVi (As := [.int xq7, .int xq10, .int xq13]) (rest := []) C hR (C_Od_otherChoice l hl0 G xq7 xq10 xq13 mq11 _ _ hzq15) (by decide) (by decide) ob2 rfl wX10_322 rfl rfl (Nat.le_of_ble_eq_true rfl) hl.1 ⟨Nat.zero_le _, Nat.zero_le _⟩ (dk DX10_cost 32 rfl) (fun H locs hR => ?_)
        refine lv_istore (lv' := [(5, .int xq16), (4, .int xq13), (3, .int xq10), (2, .int xq7), (0, .ref (G.2.1 + 0)), (1, .int a1)]) hx hb (dk DX10_cost 33 rfl) hl (by decide) rfl (fun ls hl => ?_)
        refine lv_iload_n hx hb (dk DX10_cost 34 rfl) rfl (lv_at hl 5 rfl) ?_
        obtain ⟨k90_17, ek90_17, hF⟩ := lt_ex hF
        have J90 : ∀ (mq17 : Mem) (H : Heap) (locs : List Loc) (ls : Array Slot), lv_has ls 15 [(0, .ref (G.2.1 + 0)), (1, .int a1), (2, .int xq7), (3, .int xq10), (4, .int xq13), (5, .int xq16)] → Rp G mr0 N0 mq17 s H locs → k90_17  mq17 = some (v, m') → W p l e (rmX 292 (ouL v)) s mid args below meth c H locs 0 0 (ZX below G mr0 N0 (ouL v) m' args s) (F0 mid 90 ls []) := by
          intro  mq17 H locs ls hl hR hF
          rw [ek90_17] at hF
          refine lv_iload hx hb (dk DX10_cost 44 rfl) (lv_at hl 5 rfl) ?_
          refine lv_if_ne (tgt := 97) hx hb (dk DX10_cost 45 rfl) (by decide) (fun c92 => ?_) (fun c92 => ?_)
          · have hF := if_f c92 hF
            refine lv_aload_n hx hb (dk DX10_cost 48 rfl) rfl (lv_at hl 0 rfl) ?_
            refine gX10_23 C hR ob0 rf0_3 (dk DX10_cost 49 rfl) ?_
            refine lv_aload_n hx hb (dk DX10_cost 50 rfl) rfl (lv_at hl 0 rfl) ?_
            refine gX10_37 C hR ob0 rf0_5 (dk DX10_cost 51 rfl) ?_
            refine gX10_93 C hR ob16 (dk DX10_cost 52 rfl) ?_
            refine lv_aload_n hx hb (dk DX10_cost 53 rfl) rfl (lv_at hl 0 rfl) ?_
            refine gX10_31 C hR ob0 rf0_4 (dk DX10_cost 54 rfl) ?_
            refine gX10_200 C hR ob3 (dk DX10_cost 55 rfl) ?_
            refine lv_iconst (v := (0 : Int32)) hx hb (dk DX10_cost 56 rfl) (by decide) ?_
            obtain ⟨uq20, mq18, hzq19, hF⟩ := bnd_ex hF
            refine r_callVv (As := [.int (gI mq17 16 0), .int (gI mq17 3 5), .int (b2i false)]) (rest := []) C hR (C_Od_ready l hl0 G (gI mq17 16 0) (gI mq17 3 5) false mq17 _ _ hzq19) (by decide) (by decide) ob2 rfl wX10_327 rfl rfl (Nat.le_of_ble_eq_true rfl) hl.1 ⟨Nat.zero_le _, Nat.zero_le _⟩ (dk DX10_cost 57 rfl) (fun H locs hR => ?_)
            refine lv_iload_n hx hb (dk DX10_cost 58 rfl) rfl (lv_at hl 2 rfl) ?_
            obtain ⟨zq23, mq21, hzq22, hF⟩ := bnd_ex hF
            refine r_callSi (As := [.int xq7]) (rest := []) C hR (C_Od_firstBats l hl0 G xq7 mq18 _ _ hzq22) (by decide) (by decide) wX10_331 rfl rfl (Nat.le_of_ble_eq_true rfl) hl.1 ⟨Nat.zero_le _, Nat.zero_le _⟩ (dk DX10_cost 59 rfl) (fun H locs hR => ?_)
            refine lv_istore (lv' := [(6, .int (b2i zq23)), (0, .ref (G.2.1 + 0)), (1, .int a1), (2, .int xq7), (3, .int xq10), (4, .int xq13), (5, .int xq16)]) hx hb (dk DX10_cost 60 rfl) hl (by decide) rfl (fun ls hl => ?_)
            refine lv_aload_n hx hb (dk DX10_cost 61 rfl) rfl (lv_at hl 1 rfl) ?_
            refine gX10_23 C hR ob0 rf0_3 (dk DX10_cost 62 rfl) ?_
            refine lv_iconst (v := (0 : Int32)) hx hb (dk DX10_cost 63 rfl) (by decide) ?_
            refine lv_aload_n hx hb (dk DX10_cost 64 rfl) rfl (lv_at hl 1 rfl) ?_
            refine gX10_37 C hR ob0 rf0_5 (dk DX10_cost 65 rfl) ?_
            refine gX10_203 C hR ob16 (dk DX10_cost 66 rfl) ?_
            refine lv_iload_n hx hb (dk DX10_cost 67 rfl) rfl (lv_at hl 3 rfl) ?_
            refine lv_iload_n hx hb (dk DX10_cost 68 rfl) rfl (lv_at hl 4 rfl) ?_
            refine lv_iload hx hb (dk DX10_cost 69 rfl) (lv_at hl 5 rfl) ?_
            obtain ⟨yq26, mq24, hzq25, hF⟩ := bnd_ex hF
            refine r_callVl (As := [.int (b2i false), .int (gI mq21 16 3), .int xq7, .int xq10, .int xq13]) (rest := []) C hR (C_Od_waysByChoice l hl0 G false (gI mq21 16 3) xq7 xq10 xq13 mq21 _ _ hzq25) (by decide) (by decide) ob2 rfl wX10_334 rfl rfl (Nat.le_of_ble_eq_true rfl) hl.1 ⟨Nat.zero_le _, Nat.zero_le _⟩ (dk DX10_cost 70 rfl) (fun H locs hR => ?_)
            refine lv_lstore (lv' := [(7, .long yq26), (6, .int (b2i zq23)), (0, .ref (G.2.1 + 0)), (1, .int a1), (2, .int xq7), (3, .int xq10), (4, .int xq13), (5, .int xq16)]) hx hb (dk DX10_cost 71 rfl) hl (by decide) rfl (fun ls hl => ?_)
            refine lv_aload_n hx hb (dk DX10_cost 72 rfl) rfl (lv_at hl 2 rfl) ?_
            refine gX10_23 C hR ob0 rf0_3 (dk DX10_cost 73 rfl) ?_
            refine lv_iconst (v := (1 : Int32)) hx hb (dk DX10_cost 74 rfl) (by decide) ?_
            refine lv_aload_n hx hb (dk DX10_cost 75 rfl) rfl (lv_at hl 2 rfl) ?_
            refine gX10_37 C hR ob0 rf0_5 (dk DX10_cost 76 rfl) ?_
            refine gX10_203 C hR ob16 (dk DX10_cost 77 rfl) ?_
            refine lv_iload_n hx hb (dk DX10_cost 78 rfl) rfl (lv_at hl 4 rfl) ?_
            refine lv_iload_n hx hb (dk DX10_cost 79 rfl) rfl (lv_at hl 5 rfl) ?_
            refine lv_iload hx hb (dk DX10_cost 80 rfl) (lv_at hl 6 rfl) ?_
            obtain ⟨yq29, mq27, hzq28, hF⟩ := bnd_ex hF
            refine r_callVl (As := [.int (b2i true), .int (gI mq24 16 3), .int xq7, .int xq10, .int xq13]) (rest := []) C hR (C_Od_waysByChoice l hl0 G true (gI mq24 16 3) xq7 xq10 xq13 mq24 _ _ hzq28) (by decide) (by decide) ob2 rfl wX10_334 rfl rfl (Nat.le_of_ble_eq_true rfl) hl.1 ⟨Nat.zero_le _, Nat.zero_le _⟩ (dk DX10_cost 81 rfl) (fun H locs hR => ?_)
            refine lv_lstore (lv' := [(9, .long yq29), (7, .long yq26), (6, .int (b2i zq23)), (0, .ref (G.2.1 + 0)), (1, .int a1), (2, .int xq7), (3, .int xq10), (4, .int xq13), (5, .int xq16)]) hx hb (dk DX10_cost 82 rfl) hl (by decide) rfl (fun ls hl => ?_)
            refine lv_aload_n hx hb (dk DX10_cost 83 rfl) rfl (lv_at hl 3 rfl) ?_
            refine gX10_23 C hR ob0 rf0_3 (dk DX10_cost 84 rfl) ?_
            refine lv_lload hx hb (dk DX10_cost 85 rfl) (lv_at hl 1 rfl) ?_
            refine lv_aload_n hx hb (dk DX10_cost 86 rfl) rfl (lv_at hl 3 rfl) ?_
            refine gX10_37 C hR ob0 rf0_5 (dk DX10_cost 87 rfl) ?_
            refine gX10_203 C hR ob16 (dk DX10_cost 88 rfl) ?_
            refine lv_iload hx hb (dk DX10_cost 89 rfl) (lv_at hl 2 rfl) ?_
            refine lv_aload_n hx hb (dk DX10_cost 90 rfl) rfl (lv_at hl 3 rfl) ?_
            refine gX10_31 C hR ob0 rf0_4 (dk DX10_cost 91 rfl) ?_
            refine gX10_200 C hR ob3 (dk DX10_cost 92 rfl) ?_
            obtain ⟨yq32, mq30, hzq31, hF⟩ := bnd_ex hF
            refine r_callVl (As := [.long yq26, .int (gI mq27 16 3), .int (b2i zq23), .int (gI mq27 3 5)]) (rest := []) C hR (C_Od_valueOf l hl0 G yq26 (gI mq27 16 3) zq23 (gI mq27 3 5) mq27 _ _ hzq31) (by decide) (by decide) ob2 rfl wX10_310 rfl rfl (Nat.le_of_ble_eq_true rfl) hl.1 ⟨Nat.zero_le _, Nat.zero_le _⟩ (dk DX10_cost 93 rfl) (fun H locs hR => ?_)
            refine lv_lstore (lv' := [(11, .long yq32), (9, .long yq29), (7, .long yq26), (6, .int (b2i zq23)), (0, .ref (G.2.1 + 0)), (1, .int a1), (2, .int xq7), (3, .int xq10), (4, .int xq13), (5, .int xq16)]) hx hb (dk DX10_cost 94 rfl) hl (by decide) rfl (fun ls hl => ?_)
            refine lv_aload_n hx hb (dk DX10_cost 95 rfl) rfl (lv_at hl 4 rfl) ?_
            refine gX10_23 C hR ob0 rf0_3 (dk DX10_cost 96 rfl) ?_
            refine lv_lload hx hb (dk DX10_cost 97 rfl) (lv_at hl 1 rfl) ?_
            refine lv_aload_n hx hb (dk DX10_cost 98 rfl) rfl (lv_at hl 4 rfl) ?_
            refine gX10_37 C hR ob0 rf0_5 (dk DX10_cost 99 rfl) ?_
            refine gX10_203 C hR ob16 (dk DX10_cost 100 rfl) ?_
            refine lv_iload hx hb (dk DX10_cost 101 rfl) (lv_at hl 3 rfl) ?_
            refine lv_aload_n hx hb (dk DX10_cost 102 rfl) rfl (lv_at hl 4 rfl) ?_
            refine gX10_31 C hR ob0 rf0_4 (dk DX10_cost 103 rfl) ?_
            refine gX10_200 C hR ob3 (dk DX10_cost 104 rfl) ?_
            obtain ⟨yq35, mq33, hzq34, hF⟩ := bnd_ex hF
            refine r_callVl (As := [.long yq29, .int (gI mq30 16 3), .int (b2i zq23), .int (gI mq30 3 5)]) (rest := []) C hR (C_Od_valueOf l hl0 G yq29 (gI mq30 16 3) zq23 (gI mq30 3 5) mq30 _ _ hzq34) (by decide) (by decide) ob2 rfl wX10_310 rfl rfl (Nat.le_of_ble_eq_true rfl) hl.1 ⟨Nat.zero_le _, Nat.zero_le _⟩ (dk DX10_cost 105 rfl) (fun H locs hR => ?_)
            refine lv_lstore (lv' := [(13, .long yq35), (11, .long yq32), (9, .long yq29), (7, .long yq26), (6, .int (b2i zq23)), (0, .ref (G.2.1 + 0)), (1, .int a1), (2, .int xq7), (3, .int xq10), (4, .int xq13), (5, .int xq16)]) hx hb (dk DX10_cost 106 rfl) hl (by decide) rfl (fun ls hl => ?_)
            refine lv_lload hx hb (dk DX10_cost 107 rfl) (lv_at hl 1 rfl) ?_
            refine lv_lload hx hb (dk DX10_cost 108 rfl) (lv_at hl 0 rfl) ?_
            refine r_mxL C (gd q1390 rfl) (by decide) (Nat.le_of_ble_eq_true rfl) hl.1 ⟨Nat.zero_le _, Nat.zero_le _⟩ (dk DX10_cost 109 rfl) ?_
            refine lv_iload_n hx hb (dk DX10_cost 110 rfl) rfl (lv_at hl 6 rfl) ?_
            obtain ⟨k239_37, ek239_37, hF⟩ := lt_ex hF
            have J239 : ∀ (yq37 : Int64) (mq36 : Mem) (H : Heap) (locs : List Loc) (ls : Array Slot), lv_has ls 15 [] → Rp G mr0 N0 mq36 s H locs → k239_37 yq37 mq36 = some (v, m') → W p l e (rmX 292 (ouL v)) s mid args below meth c H locs 0 0 (ZX below G mr0 N0 (ouL v) m' args s) (F0 mid 239 ls [.long yq37, .long (mxL yq32 yq35)]) := by
              intro yq37 mq36 H locs ls hl hR hF
              rw [ek239_37] at hF
              refine lv_lsub hx hb (dk DX10_cost 115 rfl) ?_
              cases hF
              exact x_lret C hrt hR (dk DX10_cost 116 rfl)
            refine lv_if_ne (tgt := 237) hx hb (dk DX10_cost 111 rfl) (by decide) (fun c229 => ?_) (fun c229 => ?_)
            · have hF := if_f c229 hF
              refine lv_lload hx hb (dk DX10_cost 114 rfl) (lv_at hl 0 rfl) ?_
              exact J239 yq35 mq33 _ _ ls (lv_sub hl [] rfl) hR hF
            · have hF := if_t c229 hF
              refine lv_lload hx hb (dk DX10_cost 112 rfl) (lv_at hl 1 rfl) ?_
              refine lv_goto (tgt := 239) hx hb (dk DX10_cost 113 rfl) (by decide) ?_
              exact J239 yq32 mq33 _ _ ls (lv_sub hl [] rfl) hR hF
          · have hF := if_t c92 hF
            refine lv_lconst (v := (0 : Int64)) hx hb (dk DX10_cost 46 rfl) (by decide) ?_
            cases hF
            exact x_lret C hrt hR (dk DX10_cost 47 rfl)
        refine lv_if_eq (tgt := 90) hx hb (dk DX10_cost 35 rfl) (by decide) (fun c70 => ?_) (fun c70 => ?_)
        · have hF := if_t c70 hF
          exact J90 mq14 _ _ ls (lv_sub hl [4, 5, 3, 2, 1, 0] rfl) hR hF
        · have hF := if_f c70 hF
          refine lv_iload_n hx hb (dk DX10_cost 36 rfl) rfl (lv_at hl 5 rfl) ?_
          refine lv_iload hx hb (dk DX10_cost 37 rfl) (lv_at hl 0 rfl) ?_
          refine lv_icmp_eq (tgt := 90) hx hb (dk DX10_cost 38 rfl) (by decide) (fun c76 => ?_) (fun c76 => ?_)
          · have hF := if_t c76 hF
            exact J90 mq14 _ _ ls (lv_sub hl [4, 5, 3, 2, 1, 0] rfl) hR hF
          · have hF := if_f c76 hF
            cases hF
            exact r_throwW (d := 292) (k := 0) C hex hR tX10_239 strm_X10_325 (by decide) (Nat.le_of_ble_eq_true rfl) hl.1 (dk DX10_cost 39 rfl) (dk DX10_cost 40 rfl) (dk DX10_cost 41 rfl) (dk DX10_cost 42 rfl) (dk DX10_cost 43 rfl)
    · have hF := if_f c6 hF
      exact J9 m0 _ _ ls (lv_sub hl [] rfl) hR hF
