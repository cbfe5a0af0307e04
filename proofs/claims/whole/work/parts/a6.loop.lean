def tgL (n : Nat) : Nat := [256, 329, 354, 398, 442, 455, 539, 635, 703, 783, 839, 895, 939, 995, 1051, 1095, 1139, 1152, 1207, 1274, 1329, 1342, 1409, 1481, 1614, 1741, 1809, 1884, 1940, 2055, 2123, 2243, 2298, 2342, 2398, 2466, 2507, 2603, 2703, 2758, 2830, 2886, 2994, 3062, 3130, 3198, 3223, 3236, 3247, 3260].getD n 3285
set_option maxRecDepth 20000 in
theorem K_at {p : Program} {l : Launch} {e : Env} {G : GG} {d : Nat} {s : State} {mid : MethodId} {b : Nat} {below : List Frame} {meth : Method} {c : Code} {H : Heap} {locs : List Loc} {ls : Array Slot} {Q : State → Prop} {L : Nat} {xs : Nat → Int32} {i : Int32} {B cells slots : Nat} {mem : Mem} (hl0 : l.stackTraces = false) (C : Cx G p l room_1 d s mid #[.ref b] meth c code 8 RL) (hd : 299 ≤ d) (hN : NCS s) (hX : va_X b L xs s s.heap) (hbl : b < s.heap.size) (hbA : ¬ G.2.1 ≤ b) (hin : ∀ z : Int, 0 ≤ z → z ≤ 6 → vp_in (i + iI z) L) (hB : B ≤ 100000) (hI : Inv B mem) (hR : Rp G mr0 N0 mem s H locs) (hl : lv_has ls 8 (five G b i)) (hcs : cells + 1 ≤ 601024 ∧ slots + 6 ≤ 7293034) (kk : ∀ (H : Heap) (locs : List Loc) (ls : Array Slot) (mem : Mem), lv_has ls 8 (five G b i) → Rp G mr0 N0 mem s H locs → Inv (B + 101) mem → W p l e room_1 s mid #[.ref b] below meth c H locs (cells + 1) (slots + 6) Q (F0 mid 3285 ls [])) : ∀ n, n < 50 → W p l e room_1 s mid #[.ref b] below meth c H locs cells slots Q (F0 mid (tgL n) ls [])
  | 0, _ => K_0 hl0 C hd hN hX hbl hbA hin hB hI hR hl hcs kk
  | 1, _ => K_1 hl0 C hd hN hX hbl hbA hin hB hI hR hl hcs kk
  | 2, _ => K_2 hl0 C hd hN hX hbl hbA hin hB hI hR hl hcs kk
  | 3, _ => K_3 hl0 C hd hN hX hbl hbA hin hB hI hR hl hcs kk
  | 4, _ => K_4 hl0 C hd hN hX hbl hbA hin hB hI hR hl hcs kk
  | 5, _ => K_5 hl0 C hd hN hX hbl hbA hin hB hI hR hl hcs kk
  | 6, _ => K_6 hl0 C hd hN hX hbl hbA hin hB hI hR hl hcs kk
  | 7, _ => K_7 hl0 C hd hN hX hbl hbA hin hB hI hR hl hcs kk
  | 8, _ => K_8 hl0 C hd hN hX hbl hbA hin hB hI hR hl hcs kk
  | 9, _ => K_9 hl0 C hd hN hX hbl hbA hin hB hI hR hl hcs kk
  | 10, _ => K_10 hl0 C hd hN hX hbl hbA hin hB hI hR hl hcs kk
  | 11, _ => K_11 hl0 C hd hN hX hbl hbA hin hB hI hR hl hcs kk
  | 12, _ => K_12 hl0 C hd hN hX hbl hbA hin hB hI hR hl hcs kk
  | 13, _ => K_13 hl0 C hd hN hX hbl hbA hin hB hI hR hl hcs kk
  | 14, _ => K_14 hl0 C hd hN hX hbl hbA hin hB hI hR hl hcs kk
  | 15, _ => K_15 hl0 C hd hN hX hbl hbA hin hB hI hR hl hcs kk
  | 16, _ => K_16 hl0 C hd hN hX hbl hbA hin hB hI hR hl hcs kk
  | 17, _ => K_17 hl0 C hd hN hX hbl hbA hin hB hI hR hl hcs kk
  | 18, _ => K_18 hl0 C hd hN hX hbl hbA hin hB hI hR hl hcs kk
  | 19, _ => K_19 hl0 C hd hN hX hbl hbA hin hB hI hR hl hcs kk
  | 20, _ => K_20 hl0 C hd hN hX hbl hbA hin hB hI hR hl hcs kk
  | 21, _ => K_21 hl0 C hd hN hX hbl hbA hin hB hI hR hl hcs kk
  | 22, _ => K_22 hl0 C hd hN hX hbl hbA hin hB hI hR hl hcs kk
  | 23, _ => K_23 hl0 C hd hN hX hbl hbA hin hB hI hR hl hcs kk
  | 24, _ => K_24 hl0 C hd hN hX hbl hbA hin hB hI hR hl hcs kk
  | 25, _ => K_25 hl0 C hd hN hX hbl hbA hin hB hI hR hl hcs kk
  | 26, _ => K_26 hl0 C hd hN hX hbl hbA hin hB hI hR hl hcs kk
  | 27, _ => K_27 hl0 C hd hN hX hbl hbA hin hB hI hR hl hcs kk
  | 28, _ => K_28 hl0 C hd hN hX hbl hbA hin hB hI hR hl hcs kk
  | 29, _ => K_29 hl0 C hd hN hX hbl hbA hin hB hI hR hl hcs kk
  | 30, _ => K_30 hl0 C hd hN hX hbl hbA hin hB hI hR hl hcs kk
  | 31, _ => K_31 hl0 C hd hN hX hbl hbA hin hB hI hR hl hcs kk
  | 32, _ => K_32 hl0 C hd hN hX hbl hbA hin hB hI hR hl hcs kk
  | 33, _ => K_33 hl0 C hd hN hX hbl hbA hin hB hI hR hl hcs kk
  | 34, _ => K_34 hl0 C hd hN hX hbl hbA hin hB hI hR hl hcs kk
  | 35, _ => K_35 hl0 C hd hN hX hbl hbA hin hB hI hR hl hcs kk
  | 36, _ => K_36 hl0 C hd hN hX hbl hbA hin hB hI hR hl hcs kk
  | 37, _ => K_37 hl0 C hd hN hX hbl hbA hin hB hI hR hl hcs kk
  | 38, _ => K_38 hl0 C hd hN hX hbl hbA hin hB hI hR hl hcs kk
  | 39, _ => K_39 hl0 C hd hN hX hbl hbA hin hB hI hR hl hcs kk
  | 40, _ => K_40 hl0 C hd hN hX hbl hbA hin hB hI hR hl hcs kk
  | 41, _ => K_41 hl0 C hd hN hX hbl hbA hin hB hI hR hl hcs kk
  | 42, _ => K_42 hl0 C hd hN hX hbl hbA hin hB hI hR hl hcs kk
  | 43, _ => K_43 hl0 C hd hN hX hbl hbA hin hB hI hR hl hcs kk
  | 44, _ => K_44 hl0 C hd hN hX hbl hbA hin hB hI hR hl hcs kk
  | 45, _ => K_45 hl0 C hd hN hX hbl hbA hin hB hI hR hl hcs kk
  | 46, _ => K_46 hl0 C hd hN hX hbl hbA hin hB hI hR hl hcs kk
  | 47, _ => K_47 hl0 C hd hN hX hbl hbA hin hB hI hR hl hcs kk
  | 48, _ => K_48 hl0 C hd hN hX hbl hbA hin hB hI hR hl hcs kk
  | 49, _ => K_49 hl0 C hd hN hX hbl hbA hin hB hI hR hl hcs kk
  | _ + 50, h => absurd h (by omega)
theorem law_loop {p : Program} {l : Launch} {e : Env} {G : GG} {d : Nat} {s : State} {mid : MethodId} {b : Nat} {below : List Frame} {meth : Method} {c : Code} {L : Nat} {xs : Nat → Int32} (hl0 : l.stackTraces = false) (C : Cx G p l room_1 d s mid #[.ref b] meth c code 8 RL) (hd : 299 ≤ d) (hN : NCS s) (hX : va_X b L xs s s.heap) (hL : L ≤ 3584) (hbl : b < s.heap.size) (hbA : ¬ G.2.1 ≤ b) (hG : s.heap.size ≤ G.2.1) {Q : State → Prop} (hend : ∀ (H : Heap) (ls : Array Slot), W p l e room_1 s mid #[.ref b] below meth c H [] 601024 7293034 Q (F0 mid 3292 ls [.int 1])) : ∀ (f k : Nat), k + f = 512 → ∀ (H : Heap) (locs : List Loc) (ls : Array Slot) (mem : Mem), lv_has ls 8 (five G b (iI ((7 * k : Nat) : Int))) → Rp G mr0 N0 mem s H locs → Inv (101 * k) mem →
    W p l e room_1 s mid #[.ref b] below meth c H locs (92 + k) (294723 + 6 * k) Q (F0 mid 23 ls []) := by
  have hx := C.1.1
  have hb := C.1.2.1
  intro f
  induction f with
  | zero =>
    intro k hk H locs ls mem hl hR hI
    refine lv_iload hx hb (dk DLaw0 13 rfl) (lv_at hl 4 rfl) ?_
    refine lv_aload_n hx hb (dk DLaw0 14 rfl) rfl (lv_at hl 0 rfl) ?_
    refine va_slen hx hb hX hbl hbA hR.2 (dk DLaw0 15 rfl) ?_
    refine lv_bipush (v := (7 : Int32)) hx hb (dk DLaw0 16 rfl) (by decide) ?_
    refine lv_isub hx hb (dk DLaw0 17 rfl) ?_
    have e1 : Int32.ofNat L - 7 = iI ((L : Int) - 7) := by
      rw [show Int32.ofNat L = iI (L : Int) from nI_iI L]
      exact iI_sub (L : Int) 7
    rw [e1]
    refine lv_icmp_gt (tgt := 3291) hx hb (dk DLaw0 18 rfl) (by decide) (fun _ => ?_) (fun h => absurd ((iI_lt_t (by omega) (by omega) (by omega)).mpr trivial) h)
    refine lv_iconst (v := (1 : Int32)) hx hb (dk DLaw32 53 rfl) (by decide) ?_
    exact va_forget (fun q hq => Nat.le_trans hG (hR.2.2.2 q hq)) (W.widen (k := 601024) (n := 7293034) (by omega) (by omega) (hend _ _))
  | succ f ih =>
    intro k hk H locs ls mem hl hR hI
    have kk : ∀ (H : Heap) (locs : List Loc) (ls : Array Slot) (mem : Mem), lv_has ls 8 (five G b (iI ((7 * k : Nat) : Int))) → Rp G mr0 N0 mem s H locs → Inv (101 * k + 101) mem → W p l e room_1 s mid #[.ref b] below meth c H locs (92 + k + 1) (294723 + 6 * k + 6) Q (F0 mid 3285 ls []) := by
      intro H locs ls mem hl hR hI
      refine lv_iinc (k := 4) (v := iI ((7 * (k + 1) : Nat) : Int)) (lv' := [(4, .int (iI ((7 * (k + 1) : Nat) : Int))), (0, .ref b), (1, .ref (G.2.1 + 0)), (2, .ref (G.2.1 + 78)), (3, .ref (G.2.1 + 91))]) hx hb (dk DLaw32 51 rfl) hl rfl ?_ (by decide) rfl (fun ls hl => ?_)
      · show iI ((7 * k : Nat) : Int) + iI 7 = _
        rw [iI_add]
        congr 1
      refine lv_goto (tgt := 23) hx hb (dk DLaw32 52 rfl) (by decide) ?_
      exact ih (k + 1) (by omega) H locs ls mem (lv_sub hl [1, 2, 3, 4, 0] rfl) hR hI
    refine lv_iload hx hb (dk DLaw0 13 rfl) (lv_at hl 4 rfl) ?_
    refine lv_aload_n hx hb (dk DLaw0 14 rfl) rfl (lv_at hl 0 rfl) ?_
    refine va_slen hx hb hX hbl hbA hR.2 (dk DLaw0 15 rfl) ?_
    refine lv_bipush (v := (7 : Int32)) hx hb (dk DLaw0 16 rfl) (by decide) ?_
    refine lv_isub hx hb (dk DLaw0 17 rfl) ?_
    have e1 : Int32.ofNat L - 7 = iI ((L : Int) - 7) := by
      rw [show Int32.ofNat L = iI (L : Int) from nI_iI L]
      exact iI_sub (L : Int) 7
    rw [e1]
    refine lv_icmp_gt (tgt := 3291) hx hb (dk DLaw0 18 rfl) (by decide) (fun _ => ?_) (fun h => ?_)
    · refine lv_iconst (v := (1 : Int32)) hx hb (dk DLaw32 53 rfl) (by decide) ?_
      exact va_forget (fun q hq => Nat.le_trans hG (hR.2.2.2 q hq)) (W.widen (k := 601024) (n := 7293034) (by omega) (by omega) (hend _ _))
    have hlt : 7 * k + 7 ≤ L := by
      refine Decidable.byContradiction (fun hn => h ((iI_lt_t (by omega) (by omega) (by omega)).mpr trivial))
    have hin : ∀ z : Int, 0 ≤ z → z ≤ 6 → vp_in (iI ((7 * k : Nat) : Int) + iI z) L := by
      intro z z0 z6
      obtain ⟨n, rfl⟩ := Int.eq_ofNat_of_zero_le z0
      rw [iI_add, show ((7 * k : Nat) : Int) + (n : Int) = ((7 * k + n : Nat) : Int) by omega, ← nI_iI]
      exact nI_in (by omega) (by omega)
    refine lv_aload_n hx hb (dk DLaw0 19 rfl) rfl (lv_at hl 0 rfl) ?_
    refine lv_iload hx hb (dk DLaw0 20 rfl) (lv_at hl 4 rfl) ?_
    refine va_sld hx hb hX hbl hbA hR.2 (by rw [← nI_iI]; exact nI_in (by omega) (by omega)) (dk DLaw0 21 rfl) ?_
    refine lv_bipush (v := (63 : Int32)) hx hb (dk DLaw0 22 rfl) (by decide) ?_
    refine lv_iand hx hb (dk DLaw0 23 rfl) ?_
    generalize xs (iI ((7 * k : Nat) : Int)).toNatClampNeg &&& 63 = y
    have def_ : W p l e room_1 s mid #[.ref b] below meth c H locs (92 + k) (294723 + 6 * k) Q (F0 mid 3285 ls []) := W.widen (by omega) (by omega) (kk H locs ls mem hl hR (hI.up (by omega)))
    by_cases h1 : y.toInt < 0
    · exact lv_tableOut (tgt := 3285) hx hb (dk DLaw0 24 rfl) (Or.inl h1) (by decide) def_
    by_cases h2 : 49 < y.toInt
    · exact lv_tableOut (tgt := 3285) hx hb (dk DLaw0 24 rfl) (Or.inr h2) (by decide) def_
    have h3 : (y.toInt - 0).toNat < 50 := by omega
    have key : ∀ n, n < 50 → (#[216, 289, 314, 358, 402, 415, 499, 595, 663, 743, 799, 855, 899, 955, 1011, 1055, 1099, 1112, 1167, 1234, 1289, 1302, 1369, 1441, 1574, 1701, 1769, 1844, 1900, 2015, 2083, 2203, 2258, 2302, 2358, 2426, 2467, 2563, 2663, 2718, 2790, 2846, 2954, 3022, 3090, 3158, 3183, 3196, 3207, 3220] : Array Int)[n]? = some ((tgL n : Int) - 40) := by decide +kernel
    refine lv_tableIn (tgt := tgL (y.toInt - 0).toNat) hx hb (dk DLaw0 24 rfl) h1 h2 (key _ h3) (by omega) ?_
    exact K_at hl0 C hd hN hX hbl hbA hin (by omega) hI hR hl ⟨by omega, by omega⟩ (fun H locs ls mem hl hR hI => kk H locs ls mem hl hR hI) _ h3
