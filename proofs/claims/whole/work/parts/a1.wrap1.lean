set_option maxRecDepth 20000 in
theorem W_ground_n (l : Launch) (hl0 : l.stackTraces = false) (G : GG)  (m0 : Mem) (v : Int32) (m1 : Mem) (hF : F_T_ground m0 = some (.inr v, m1)) : Wt l G yL_ground cL_ground 3 [(0, 8, 11, 13), (0, 8, 14, 15)] 16 [.ref (G.2.1 + 0), .ref (G.2.1 + 91)] m0 (.inr none) 0 (sL m1 91 0 v.toInt64) := by
  refine Wt_of hl0 (by decide) (Nat.le_of_ble_eq_true rfl) ?_
  intro p e s mid args below meth c ls C hN hrt htab hl hR
  have hx := C.1.1
  have hb := C.1.2.1
  have hl : lv_has ls 3 [(0, .ref (G.2.1 + 0)), (1, .ref (G.2.1 + 91))] := hl
  refine lv_aload_n hx hb (dk DL_ground 0 rfl) rfl (lv_at hl 1 rfl) ?_
  refine lv_iconst (v := (0 : Int32)) hx hb (dk DL_ground 1 rfl) (by decide) ?_
  refine lv_aload_n hx hb (dk DL_ground 2 rfl) rfl (lv_at hl 0 rfl) ?_
  have hM := C_T_ground l hl0 G  m0 (Sum.inr v) m1 hF
  rw [show ouI (Sum.inr v) = (Sum.inr (some (.int v)) : Ou) from rfl] at hM
  refine x_callVi (As := []) (rest := [.int (0 : Int32), .ref (G.2.1 + 91)]) C hR hM (by decide) (by decide) ob0 rfl wL_7 rfl rfl (Nat.le_of_ble_eq_true rfl) hl.1 ⟨Nat.zero_le _, Nat.zero_le _⟩ (dk DL_ground 3 rfl) (fun H locs hR => ?_)
  refine lv_i2l hx hb (dk DL_ground 4 rfl) rfl ?_
  refine r_last C hR ob91 rfl (dk DL_ground 5 rfl) (fun H locs hR => ?_)
  refine lv_goto (tgt := 17) hx hb (dk DL_ground 6 rfl) (by decide) ?_
  refine lv_iconst (v := (0 : Int32)) hx hb (dk DL_ground 13 rfl) (by decide) ?_
  exact w_ret C hrt hR rfl rfl (dk DL_ground 14 rfl)
set_option maxRecDepth 20000 in
theorem W_ground_1 (l : Launch) (hl0 : l.stackTraces = false) (G : GG)  (m0 : Mem) (m1 : Mem) (hF : F_T_ground m0 = some (.inl 1, m1)) : Wt l G yL_ground cL_ground 3 [(0, 8, 11, 13), (0, 8, 14, 15)] 16 [.ref (G.2.1 + 0), .ref (G.2.1 + 91)] m0 (.inl 1) 1 m1 := by
  refine Wt_of hl0 (by decide) (Nat.le_of_ble_eq_true rfl) ?_
  intro p e s mid args below meth c ls C hN hrt htab hl hR
  have hx := C.1.1
  have hb := C.1.2.1
  have hl : lv_has ls 3 [(0, .ref (G.2.1 + 0)), (1, .ref (G.2.1 + 91))] := hl
  refine lv_aload_n hx hb (dk DL_ground 0 rfl) rfl (lv_at hl 1 rfl) ?_
  refine lv_iconst (v := (0 : Int32)) hx hb (dk DL_ground 1 rfl) (by decide) ?_
  refine lv_aload_n hx hb (dk DL_ground 2 rfl) rfl (lv_at hl 0 rfl) ?_
  have hM := C_T_ground l hl0 G  m0 (Sum.inl 1) m1 hF
  rw [show ouI (Sum.inl 1) = (Sum.inl 1 : Ou) from rfl] at hM
  refine x_thr hR (x_runV (As := []) (rest := [.int (0 : Int32), .ref (G.2.1 + 91)]) C hR hM (by decide) (by decide) ob0 rfl wL_7 rfl rfl (Nat.le_of_ble_eq_true rfl) hl.1 ⟨Nat.le_refl 1, Nat.le_refl 6⟩ (dk DL_ground 3 rfl)) (fun H locs ce q hR h3 h4 h5 => ?_)
  refine w_catch (pre := []) (suf := [(0, 8, 14, 15)]) (a := 0) (b := 8) (h := 11) (ct := 13) (k := 1) C hN htab rfl (by decide) (fun z hz => nomatch hz) rfl (by decide) (gd q781 rfl) h3 h4 h5 ?_
  refine lv_astore_n (lv' := [(2, .ref q), (0, .ref (G.2.1 + 0)), (1, .ref (G.2.1 + 91))]) hx hb (dk DL_ground 7 rfl) rfl hl (by decide) rfl (fun ls hl => ?_)
  refine lv_iconst (v := (1 : Int32)) hx hb (dk DL_ground 8 rfl) (by decide) ?_
  exact w_ret C hrt hR rfl rfl (dk DL_ground 9 rfl)
set_option maxRecDepth 20000 in
theorem W_ground_3 (l : Launch) (hl0 : l.stackTraces = false) (G : GG)  (m0 : Mem) (m1 : Mem) (hF : F_T_ground m0 = some (.inl 3, m1)) : Wt l G yL_ground cL_ground 3 [(0, 8, 11, 13), (0, 8, 14, 15)] 16 [.ref (G.2.1 + 0), .ref (G.2.1 + 91)] m0 (.inl 3) 2 m1 := by
  refine Wt_of hl0 (by decide) (Nat.le_of_ble_eq_true rfl) ?_
  intro p e s mid args below meth c ls C hN hrt htab hl hR
  have hx := C.1.1
  have hb := C.1.2.1
  have hl : lv_has ls 3 [(0, .ref (G.2.1 + 0)), (1, .ref (G.2.1 + 91))] := hl
  refine lv_aload_n hx hb (dk DL_ground 0 rfl) rfl (lv_at hl 1 rfl) ?_
  refine lv_iconst (v := (0 : Int32)) hx hb (dk DL_ground 1 rfl) (by decide) ?_
  refine lv_aload_n hx hb (dk DL_ground 2 rfl) rfl (lv_at hl 0 rfl) ?_
  have hM := C_T_ground l hl0 G  m0 (Sum.inl 3) m1 hF
  rw [show ouI (Sum.inl 3) = (Sum.inl 3 : Ou) from rfl] at hM
  refine x_thr hR (x_runV (As := []) (rest := [.int (0 : Int32), .ref (G.2.1 + 91)]) C hR hM (by decide) (by decide) ob0 rfl wL_7 rfl rfl (Nat.le_of_ble_eq_true rfl) hl.1 ⟨Nat.le_refl 1, Nat.le_refl 6⟩ (dk DL_ground 3 rfl)) (fun H locs ce q hR h3 h4 h5 => ?_)
  refine w_catch (pre := [(0, 8, 11, 13)]) (suf := []) (a := 0) (b := 8) (h := 14) (ct := 15) (k := 3) C hN htab rfl (by decide) (List.forall_mem_cons.mpr ⟨⟨by decide, 1, by decide, by decide, (gd q781 rfl)⟩, (fun z hz => nomatch hz)⟩) rfl (by decide) (gd q782 rfl) h3 h4 h5 ?_
  refine lv_astore_n (lv' := [(2, .ref q), (0, .ref (G.2.1 + 0)), (1, .ref (G.2.1 + 91))]) hx hb (dk DL_ground 10 rfl) rfl hl (by decide) rfl (fun ls hl => ?_)
  refine lv_iconst (v := (2 : Int32)) hx hb (dk DL_ground 11 rfl) (by decide) ?_
  exact w_ret C hrt hR rfl rfl (dk DL_ground 12 rfl)
set_option maxRecDepth 20000 in
theorem W_law_n (l : Launch) (hl0 : l.stackTraces = false) (G : GG)  (m0 : Mem) (v : Int32) (m1 : Mem) (hF : F_T_law m0 = some (.inr v, m1)) : Wt l G yL_law cL_law 3 [(0, 8, 11, 13)] 43 [.ref (G.2.1 + 0), .ref (G.2.1 + 91)] m0 (.inr none) 0 (sL m1 91 0 v.toInt64) := by
  refine Wt_of hl0 (by decide) (Nat.le_of_ble_eq_true rfl) ?_
  intro p e s mid args below meth c ls C hN hrt htab hl hR
  have hx := C.1.1
  have hb := C.1.2.1
  have hl : lv_has ls 3 [(0, .ref (G.2.1 + 0)), (1, .ref (G.2.1 + 91))] := hl
  refine lv_aload_n hx hb (dk DL_law 0 rfl) rfl (lv_at hl 1 rfl) ?_
  refine lv_iconst (v := (0 : Int32)) hx hb (dk DL_law 1 rfl) (by decide) ?_
  refine lv_aload_n hx hb (dk DL_law 2 rfl) rfl (lv_at hl 0 rfl) ?_
  have hM := C_T_law l hl0 G  m0 (Sum.inr v) m1 hF
  rw [show ouI (Sum.inr v) = (Sum.inr (some (.int v)) : Ou) from rfl] at hM
  refine x_callVi (As := []) (rest := [.int (0 : Int32), .ref (G.2.1 + 91)]) C hR hM (by decide) (by decide) ob0 rfl wL_17 rfl rfl (Nat.le_of_ble_eq_true rfl) hl.1 ⟨Nat.zero_le _, Nat.zero_le _⟩ (dk DL_law 3 rfl) (fun H locs hR => ?_)
  refine lv_i2l hx hb (dk DL_law 4 rfl) rfl ?_
  refine r_last C hR ob91 rfl (dk DL_law 5 rfl) (fun H locs hR => ?_)
  refine lv_goto (tgt := 14) hx hb (dk DL_law 6 rfl) (by decide) ?_
  refine lv_iconst (v := (0 : Int32)) hx hb (dk DL_law 10 rfl) (by decide) ?_
  exact w_ret C hrt hR rfl rfl (dk DL_law 11 rfl)
set_option maxRecDepth 20000 in
theorem W_law_1 (l : Launch) (hl0 : l.stackTraces = false) (G : GG)  (m0 : Mem) (m1 : Mem) (hF : F_T_law m0 = some (.inl 1, m1)) : Wt l G yL_law cL_law 3 [(0, 8, 11, 13)] 43 [.ref (G.2.1 + 0), .ref (G.2.1 + 91)] m0 (.inl 1) 1 m1 := by
  refine Wt_of hl0 (by decide) (Nat.le_of_ble_eq_true rfl) ?_
  intro p e s mid args below meth c ls C hN hrt htab hl hR
  have hx := C.1.1
  have hb := C.1.2.1
  have hl : lv_has ls 3 [(0, .ref (G.2.1 + 0)), (1, .ref (G.2.1 + 91))] := hl
  refine lv_aload_n hx hb (dk DL_law 0 rfl) rfl (lv_at hl 1 rfl) ?_
  refine lv_iconst (v := (0 : Int32)) hx hb (dk DL_law 1 rfl) (by decide) ?_
  refine lv_aload_n hx hb (dk DL_law 2 rfl) rfl (lv_at hl 0 rfl) ?_
  have hM := C_T_law l hl0 G  m0 (Sum.inl 1) m1 hF
  rw [show ouI (Sum.inl 1) = (Sum.inl 1 : Ou) from rfl] at hM
  refine x_thr hR (x_runV (As := []) (rest := [.int (0 : Int32), .ref (G.2.1 + 91)]) C hR hM (by decide) (by decide) ob0 rfl wL_17 rfl rfl (Nat.le_of_ble_eq_true rfl) hl.1 ⟨Nat.le_refl 1, Nat.le_refl 6⟩ (dk DL_law 3 rfl)) (fun H locs ce q hR h3 h4 h5 => ?_)
  refine w_catch (pre := []) (suf := []) (a := 0) (b := 8) (h := 11) (ct := 13) (k := 1) C hN htab rfl (by decide) (fun z hz => nomatch hz) rfl (by decide) (gd q781 rfl) h3 h4 h5 ?_
  refine lv_astore_n (lv' := [(2, .ref q), (0, .ref (G.2.1 + 0)), (1, .ref (G.2.1 + 91))]) hx hb (dk DL_law 7 rfl) rfl hl (by decide) rfl (fun ls hl => ?_)
  refine lv_iconst (v := (1 : Int32)) hx hb (dk DL_law 8 rfl) (by decide) ?_
  exact w_ret C hrt hR rfl rfl (dk DL_law 9 rfl)
set_option maxRecDepth 20000 in
theorem W_side_n (l : Launch) (hl0 : l.stackTraces = false) (G : GG) (a1 : Int32) (a2 : Bool) (m0 : Mem) (v : Int32) (m1 : Mem) (hF : F_T_side a1 a2 m0 = some (.inr v, m1)) : Wt l G yL_side cL_side 5 [(0, 10, 13, 24)] 10 [.ref (G.2.1 + 0), .int a1, .int (b2i a2), .ref (G.2.1 + 91)] m0 (.inr none) 0 (sL m1 91 0 v.toInt64) := by
  refine Wt_of hl0 (by decide) (Nat.le_of_ble_eq_true rfl) ?_
  intro p e s mid args below meth c ls C hN hrt htab hl hR
  have hx := C.1.1
  have hb := C.1.2.1
  have hl : lv_has ls 5 [(0, .ref (G.2.1 + 0)), (1, .int a1), (2, .int (b2i a2)), (3, .ref (G.2.1 + 91))] := hl
  refine lv_aload_n hx hb (dk DL_side 0 rfl) rfl (lv_at hl 3 rfl) ?_
  refine lv_iconst (v := (0 : Int32)) hx hb (dk DL_side 1 rfl) (by decide) ?_
  refine lv_aload_n hx hb (dk DL_side 2 rfl) rfl (lv_at hl 0 rfl) ?_
  refine lv_iload_n hx hb (dk DL_side 3 rfl) rfl (lv_at hl 1 rfl) ?_
  refine lv_iload_n hx hb (dk DL_side 4 rfl) rfl (lv_at hl 2 rfl) ?_
  have hM := C_T_side l hl0 G a1 a2 m0 (Sum.inr v) m1 hF
  rw [show ouI (Sum.inr v) = (Sum.inr (some (.int v)) : Ou) from rfl] at hM
  refine x_callVi (As := [.int a1, .int (b2i a2)]) (rest := [.int (0 : Int32), .ref (G.2.1 + 91)]) C hR hM (by decide) (by decide) ob0 rfl wL_20 rfl rfl (Nat.le_of_ble_eq_true rfl) hl.1 ⟨Nat.zero_le _, Nat.zero_le _⟩ (dk DL_side 5 rfl) (fun H locs hR => ?_)
  refine lv_i2l hx hb (dk DL_side 6 rfl) rfl ?_
  refine r_last C hR ob91 rfl (dk DL_side 7 rfl) (fun H locs hR => ?_)
  refine lv_goto (tgt := 17) hx hb (dk DL_side 8 rfl) (by decide) ?_
  refine lv_iconst (v := (0 : Int32)) hx hb (dk DL_side 12 rfl) (by decide) ?_
  exact w_ret C hrt hR rfl rfl (dk DL_side 13 rfl)
set_option maxRecDepth 20000 in
theorem W_side_2 (l : Launch) (hl0 : l.stackTraces = false) (G : GG) (a1 : Int32) (a2 : Bool) (m0 : Mem) (m1 : Mem) (hF : F_T_side a1 a2 m0 = some (.inl 2, m1)) : Wt l G yL_side cL_side 5 [(0, 10, 13, 24)] 10 [.ref (G.2.1 + 0), .int a1, .int (b2i a2), .ref (G.2.1 + 91)] m0 (.inl 2) 1 m1 := by
  refine Wt_of hl0 (by decide) (Nat.le_of_ble_eq_true rfl) ?_
  intro p e s mid args below meth c ls C hN hrt htab hl hR
  have hx := C.1.1
  have hb := C.1.2.1
  have hl : lv_has ls 5 [(0, .ref (G.2.1 + 0)), (1, .int a1), (2, .int (b2i a2)), (3, .ref (G.2.1 + 91))] := hl
  refine lv_aload_n hx hb (dk DL_side 0 rfl) rfl (lv_at hl 3 rfl) ?_
  refine lv_iconst (v := (0 : Int32)) hx hb (dk DL_side 1 rfl) (by decide) ?_
  refine lv_aload_n hx hb (dk DL_side 2 rfl) rfl (lv_at hl 0 rfl) ?_
  refine lv_iload_n hx hb (dk DL_side 3 rfl) rfl (lv_at hl 1 rfl) ?_
  refine lv_iload_n hx hb (dk DL_side 4 rfl) rfl (lv_at hl 2 rfl) ?_
  have hM := C_T_side l hl0 G a1 a2 m0 (Sum.inl 2) m1 hF
  rw [show ouI (Sum.inl 2) = (Sum.inl 2 : Ou) from rfl] at hM
  refine x_thr hR (x_runV (As := [.int a1, .int (b2i a2)]) (rest := [.int (0 : Int32), .ref (G.2.1 + 91)]) C hR hM (by decide) (by decide) ob0 rfl wL_20 rfl rfl (Nat.le_of_ble_eq_true rfl) hl.1 ⟨Nat.le_refl 1, Nat.le_refl 6⟩ (dk DL_side 5 rfl)) (fun H locs ce q hR h3 h4 h5 => ?_)
  refine w_catch (pre := []) (suf := []) (a := 0) (b := 10) (h := 13) (ct := 24) (k := 2) C hN htab rfl (by decide) (fun z hz => nomatch hz) rfl (by decide) (gd q1126 rfl) h3 h4 h5 ?_
  refine lv_astore (lv' := [(4, .ref q), (0, .ref (G.2.1 + 0)), (1, .int a1), (2, .int (b2i a2)), (3, .ref (G.2.1 + 91))]) hx hb (dk DL_side 9 rfl) hl (by decide) rfl (fun ls hl => ?_)
  refine lv_iconst (v := (1 : Int32)) hx hb (dk DL_side 10 rfl) (by decide) ?_
  exact w_ret C hrt hR rfl rfl (dk DL_side 11 rfl)
set_option maxRecDepth 20000 in
theorem W_slot_n (l : Launch) (hl0 : l.stackTraces = false) (G : GG) (a1 : Int32) (a2 : Int32) (a3 : Bool) (m0 : Mem) (v : Int32) (m1 : Mem) (hF : F_T_slot a1 a2 a3 m0 = some (.inr v, m1)) : Wt l G yL_slot cL_slot 6 [(0, 12, 15, 24)] 10 [.ref (G.2.1 + 0), .int a1, .int a2, .int (b2i a3), .ref (G.2.1 + 91)] m0 (.inr none) 0 (sL m1 91 0 v.toInt64) := by
  refine Wt_of hl0 (by decide) (Nat.le_of_ble_eq_true rfl) ?_
  intro p e s mid args below meth c ls C hN hrt htab hl hR
  have hx := C.1.1
  have hb := C.1.2.1
  have hl : lv_has ls 6 [(0, .ref (G.2.1 + 0)), (1, .int a1), (2, .int a2), (3, .int (b2i a3)), (4, .ref (G.2.1 + 91))] := hl
  refine lv_aload hx hb (dk DL_slot 0 rfl) (lv_at hl 4 rfl) ?_
  refine lv_iconst (v := (0 : Int32)) hx hb (dk DL_slot 1 rfl) (by decide) ?_
  refine lv_aload_n hx hb (dk DL_slot 2 rfl) rfl (lv_at hl 0 rfl) ?_
  refine lv_iload_n hx hb (dk DL_slot 3 rfl) rfl (lv_at hl 1 rfl) ?_
  refine lv_iload_n hx hb (dk DL_slot 4 rfl) rfl (lv_at hl 2 rfl) ?_
  refine lv_iload_n hx hb (dk DL_slot 5 rfl) rfl (lv_at hl 3 rfl) ?_
  have hM := C_T_slot l hl0 G a1 a2 a3 m0 (Sum.inr v) m1 hF
  rw [show ouI (Sum.inr v) = (Sum.inr (some (.int v)) : Ou) from rfl] at hM
  refine x_callVi (As := [.int a1, .int a2, .int (b2i a3)]) (rest := [.int (0 : Int32), .ref (G.2.1 + 91)]) C hR hM (by decide) (by decide) ob0 rfl wL_26 rfl rfl (Nat.le_of_ble_eq_true rfl) hl.1 ⟨Nat.zero_le _, Nat.zero_le _⟩ (dk DL_slot 6 rfl) (fun H locs hR => ?_)
  refine lv_i2l hx hb (dk DL_slot 7 rfl) rfl ?_
  refine r_last C hR ob91 rfl (dk DL_slot 8 rfl) (fun H locs hR => ?_)
  refine lv_goto (tgt := 19) hx hb (dk DL_slot 9 rfl) (by decide) ?_
  refine lv_iconst (v := (0 : Int32)) hx hb (dk DL_slot 13 rfl) (by decide) ?_
  exact w_ret C hrt hR rfl rfl (dk DL_slot 14 rfl)
set_option maxRecDepth 20000 in
theorem W_slot_2 (l : Launch) (hl0 : l.stackTraces = false) (G : GG) (a1 : Int32) (a2 : Int32) (a3 : Bool) (m0 : Mem) (m1 : Mem) (hF : F_T_slot a1 a2 a3 m0 = some (.inl 2, m1)) : Wt l G yL_slot cL_slot 6 [(0, 12, 15, 24)] 10 [.ref (G.2.1 + 0), .int a1, .int a2, .int (b2i a3), .ref (G.2.1 + 91)] m0 (.inl 2) 1 m1 := by
  refine Wt_of hl0 (by decide) (Nat.le_of_ble_eq_true rfl) ?_
  intro p e s mid args below meth c ls C hN hrt htab hl hR
  have hx := C.1.1
  have hb := C.1.2.1
  have hl : lv_has ls 6 [(0, .ref (G.2.1 + 0)), (1, .int a1), (2, .int a2), (3, .int (b2i a3)), (4, .ref (G.2.1 + 91))] := hl
  refine lv_aload hx hb (dk DL_slot 0 rfl) (lv_at hl 4 rfl) ?_
  refine lv_iconst (v := (0 : Int32)) hx hb (dk DL_slot 1 rfl) (by decide) ?_
  refine lv_aload_n hx hb (dk DL_slot 2 rfl) rfl (lv_at hl 0 rfl) ?_
  refine lv_iload_n hx hb (dk DL_slot 3 rfl) rfl (lv_at hl 1 rfl) ?_
  refine lv_iload_n hx hb (dk DL_slot 4 rfl) rfl (lv_at hl 2 rfl) ?_
  refine lv_iload_n hx hb (dk DL_slot 5 rfl) rfl (lv_at hl 3 rfl) ?_
  have hM := C_T_slot l hl0 G a1 a2 a3 m0 (Sum.inl 2) m1 hF
  rw [show ouI (Sum.inl 2) = (Sum.inl 2 : Ou) from rfl] at hM
  refine x_thr hR (x_runV (As := [.int a1, .int a2, .int (b2i a3)]) (rest := [.int (0 : Int32), .ref (G.2.1 + 91)]) C hR hM (by decide) (by decide) ob0 rfl wL_26 rfl rfl (Nat.le_of_ble_eq_true rfl) hl.1 ⟨Nat.le_refl 1, Nat.le_refl 6⟩ (dk DL_slot 6 rfl)) (fun H locs ce q hR h3 h4 h5 => ?_)
  refine w_catch (pre := []) (suf := []) (a := 0) (b := 12) (h := 15) (ct := 24) (k := 2) C hN htab rfl (by decide) (fun z hz => nomatch hz) rfl (by decide) (gd q1126 rfl) h3 h4 h5 ?_
  refine lv_astore (lv' := [(5, .ref q), (0, .ref (G.2.1 + 0)), (1, .int a1), (2, .int a2), (3, .int (b2i a3)), (4, .ref (G.2.1 + 91))]) hx hb (dk DL_slot 10 rfl) hl (by decide) rfl (fun ls hl => ?_)
  refine lv_iconst (v := (1 : Int32)) hx hb (dk DL_slot 11 rfl) (by decide) ?_
  exact w_ret C hrt hR rfl rfl (dk DL_slot 12 rfl)
set_option maxRecDepth 20000 in
theorem W_session_n (l : Launch) (hl0 : l.stackTraces = false) (G : GG) (a1 : Int32) (a2 : Int32) (m0 : Mem) (v : Int32) (m1 : Mem) (hF : F_T_session a1 a2 m0 = some (.inr v, m1)) : Wt l G yL_session cL_session 5 [(0, 10, 13, 24), (0, 10, 17, 34)] 10 [.ref (G.2.1 + 0), .int a1, .int a2, .ref (G.2.1 + 91)] m0 (.inr none) 0 (sL m1 91 0 v.toInt64) := by
  refine Wt_of hl0 (by decide) (Nat.le_of_ble_eq_true rfl) ?_
  intro p e s mid args below meth c ls C hN hrt htab hl hR
  have hx := C.1.1
  have hb := C.1.2.1
  have hl : lv_has ls 5 [(0, .ref (G.2.1 + 0)), (1, .int a1), (2, .int a2), (3, .ref (G.2.1 + 91))] := hl
  refine lv_aload_n hx hb (dk DL_session 0 rfl) rfl (lv_at hl 3 rfl) ?_
  refine lv_iconst (v := (0 : Int32)) hx hb (dk DL_session 1 rfl) (by decide) ?_
  refine lv_aload_n hx hb (dk DL_session 2 rfl) rfl (lv_at hl 0 rfl) ?_
  refine lv_iload_n hx hb (dk DL_session 3 rfl) rfl (lv_at hl 1 rfl) ?_
  refine lv_iload_n hx hb (dk DL_session 4 rfl) rfl (lv_at hl 2 rfl) ?_
  have hM := C_T_session l hl0 G a1 a2 m0 (Sum.inr v) m1 hF
  rw [show ouI (Sum.inr v) = (Sum.inr (some (.int v)) : Ou) from rfl] at hM
  refine x_callVi (As := [.int a1, .int a2]) (rest := [.int (0 : Int32), .ref (G.2.1 + 91)]) C hR hM (by decide) (by decide) ob0 rfl wL_30 rfl rfl (Nat.le_of_ble_eq_true rfl) hl.1 ⟨Nat.zero_le _, Nat.zero_le _⟩ (dk DL_session 5 rfl) (fun H locs hR => ?_)
  refine lv_i2l hx hb (dk DL_session 6 rfl) rfl ?_
  refine r_last C hR ob91 rfl (dk DL_session 7 rfl) (fun H locs hR => ?_)
  refine lv_goto (tgt := 21) hx hb (dk DL_session 8 rfl) (by decide) ?_
  refine lv_iconst (v := (0 : Int32)) hx hb (dk DL_session 15 rfl) (by decide) ?_
  exact w_ret C hrt hR rfl rfl (dk DL_session 16 rfl)
set_option maxRecDepth 20000 in
theorem W_session_2 (l : Launch) (hl0 : l.stackTraces = false) (G : GG) (a1 : Int32) (a2 : Int32) (m0 : Mem) (m1 : Mem) (hF : F_T_session a1 a2 m0 = some (.inl 2, m1)) : Wt l G yL_session cL_session 5 [(0, 10, 13, 24), (0, 10, 17, 34)] 10 [.ref (G.2.1 + 0), .int a1, .int a2, .ref (G.2.1 + 91)] m0 (.inl 2) 1 m1 := by
  refine Wt_of hl0 (by decide) (Nat.le_of_ble_eq_true rfl) ?_
  intro p e s mid args below meth c ls C hN hrt htab hl hR
  have hx := C.1.1
  have hb := C.1.2.1
  have hl : lv_has ls 5 [(0, .ref (G.2.1 + 0)), (1, .int a1), (2, .int a2), (3, .ref (G.2.1 + 91))] := hl
  refine lv_aload_n hx hb (dk DL_session 0 rfl) rfl (lv_at hl 3 rfl) ?_
  refine lv_iconst (v := (0 : Int32)) hx hb (dk DL_session 1 rfl) (by decide) ?_
  refine lv_aload_n hx hb (dk DL_session 2 rfl) rfl (lv_at hl 0 rfl) ?_
  refine lv_iload_n hx hb (dk DL_session 3 rfl) rfl (lv_at hl 1 rfl) ?_
  refine lv_iload_n hx hb (dk DL_session 4 rfl) rfl (lv_at hl 2 rfl) ?_
  have hM := C_T_session l hl0 G a1 a2 m0 (Sum.inl 2) m1 hF
  rw [show ouI (Sum.inl 2) = (Sum.inl 2 : Ou) from rfl] at hM
  refine x_thr hR (x_runV (As := [.int a1, .int a2]) (rest := [.int (0 : Int32), .ref (G.2.1 + 91)]) C hR hM (by decide) (by decide) ob0 rfl wL_30 rfl rfl (Nat.le_of_ble_eq_true rfl) hl.1 ⟨Nat.le_refl 1, Nat.le_refl 6⟩ (dk DL_session 5 rfl)) (fun H locs ce q hR h3 h4 h5 => ?_)
  refine w_catch (pre := []) (suf := [(0, 10, 17, 34)]) (a := 0) (b := 10) (h := 13) (ct := 24) (k := 2) C hN htab rfl (by decide) (fun z hz => nomatch hz) rfl (by decide) (gd q1126 rfl) h3 h4 h5 ?_
  refine lv_astore (lv' := [(4, .ref q), (0, .ref (G.2.1 + 0)), (1, .int a1), (2, .int a2), (3, .ref (G.2.1 + 91))]) hx hb (dk DL_session 9 rfl) hl (by decide) rfl (fun ls hl => ?_)
  refine lv_iconst (v := (1 : Int32)) hx hb (dk DL_session 10 rfl) (by decide) ?_
  exact w_ret C hrt hR rfl rfl (dk DL_session 11 rfl)
set_option maxRecDepth 20000 in
theorem W_session_4 (l : Launch) (hl0 : l.stackTraces = false) (G : GG) (a1 : Int32) (a2 : Int32) (m0 : Mem) (m1 : Mem) (hF : F_T_session a1 a2 m0 = some (.inl 4, m1)) : Wt l G yL_session cL_session 5 [(0, 10, 13, 24), (0, 10, 17, 34)] 10 [.ref (G.2.1 + 0), .int a1, .int a2, .ref (G.2.1 + 91)] m0 (.inl 4) 2 m1 := by
  refine Wt_of hl0 (by decide) (Nat.le_of_ble_eq_true rfl) ?_
  intro p e s mid args below meth c ls C hN hrt htab hl hR
  have hx := C.1.1
  have hb := C.1.2.1
  have hl : lv_has ls 5 [(0, .ref (G.2.1 + 0)), (1, .int a1), (2, .int a2), (3, .ref (G.2.1 + 91))] := hl
  refine lv_aload_n hx hb (dk DL_session 0 rfl) rfl (lv_at hl 3 rfl) ?_
  refine lv_iconst (v := (0 : Int32)) hx hb (dk DL_session 1 rfl) (by decide) ?_
  refine lv_aload_n hx hb (dk DL_session 2 rfl) rfl (lv_at hl 0 rfl) ?_
  refine lv_iload_n hx hb (dk DL_session 3 rfl) rfl (lv_at hl 1 rfl) ?_
  refine lv_iload_n hx hb (dk DL_session 4 rfl) rfl (lv_at hl 2 rfl) ?_
  have hM := C_T_session l hl0 G a1 a2 m0 (Sum.inl 4) m1 hF
  rw [show ouI (Sum.inl 4) = (Sum.inl 4 : Ou) from rfl] at hM
  refine x_thr hR (x_runV (As := [.int a1, .int a2]) (rest := [.int (0 : Int32), .ref (G.2.1 + 91)]) C hR hM (by decide) (by decide) ob0 rfl wL_30 rfl rfl (Nat.le_of_ble_eq_true rfl) hl.1 ⟨Nat.le_refl 1, Nat.le_refl 6⟩ (dk DL_session 5 rfl)) (fun H locs ce q hR h3 h4 h5 => ?_)
  refine w_catch (pre := [(0, 10, 13, 24)]) (suf := []) (a := 0) (b := 10) (h := 17) (ct := 34) (k := 4) C hN htab rfl (by decide) (List.forall_mem_cons.mpr ⟨⟨by decide, 2, by decide, by decide, (gd q1126 rfl)⟩, (fun z hz => nomatch hz)⟩) rfl (by decide) (gd q1165 rfl) h3 h4 h5 ?_
  refine lv_astore (lv' := [(4, .ref q), (0, .ref (G.2.1 + 0)), (1, .int a1), (2, .int a2), (3, .ref (G.2.1 + 91))]) hx hb (dk DL_session 12 rfl) hl (by decide) rfl (fun ls hl => ?_)
  refine lv_iconst (v := (2 : Int32)) hx hb (dk DL_session 13 rfl) (by decide) ?_
  exact w_ret C hrt hR rfl rfl (dk DL_session 14 rfl)
set_option maxRecDepth 20000 in
theorem W_level_n (l : Launch) (hl0 : l.stackTraces = false) (G : GG) (a1 : Int32) (a2 : Int32) (a3 : Int32) (m0 : Mem) (v : Int32) (m1 : Mem) (hF : F_T_level a1 a2 a3 m0 = some (.inr v, m1)) : Wt l G yL_level cL_level 6 [(0, 12, 15, 24)] 10 [.ref (G.2.1 + 0), .int a1, .int a2, .int a3, .ref (G.2.1 + 91)] m0 (.inr none) 0 (sL m1 91 0 v.toInt64) := by
  refine Wt_of hl0 (by decide) (Nat.le_of_ble_eq_true rfl) ?_
  intro p e s mid args below meth c ls C hN hrt htab hl hR
  have hx := C.1.1
  have hb := C.1.2.1
  have hl : lv_has ls 6 [(0, .ref (G.2.1 + 0)), (1, .int a1), (2, .int a2), (3, .int a3), (4, .ref (G.2.1 + 91))] := hl
  refine lv_aload hx hb (dk DL_level 0 rfl) (lv_at hl 4 rfl) ?_
  refine lv_iconst (v := (0 : Int32)) hx hb (dk DL_level 1 rfl) (by decide) ?_
  refine lv_aload_n hx hb (dk DL_level 2 rfl) rfl (lv_at hl 0 rfl) ?_
  refine lv_iload_n hx hb (dk DL_level 3 rfl) rfl (lv_at hl 1 rfl) ?_
  refine lv_iload_n hx hb (dk DL_level 4 rfl) rfl (lv_at hl 2 rfl) ?_
  refine lv_iload_n hx hb (dk DL_level 5 rfl) rfl (lv_at hl 3 rfl) ?_
  have hM := C_T_level l hl0 G a1 a2 a3 m0 (Sum.inr v) m1 hF
  rw [show ouI (Sum.inr v) = (Sum.inr (some (.int v)) : Ou) from rfl] at hM
  refine x_callVi (As := [.int a1, .int a2, .int a3]) (rest := [.int (0 : Int32), .ref (G.2.1 + 91)]) C hR hM (by decide) (by decide) ob0 rfl wL_36 rfl rfl (Nat.le_of_ble_eq_true rfl) hl.1 ⟨Nat.zero_le _, Nat.zero_le _⟩ (dk DL_level 6 rfl) (fun H locs hR => ?_)
  refine lv_i2l hx hb (dk DL_level 7 rfl) rfl ?_
  refine r_last C hR ob91 rfl (dk DL_level 8 rfl) (fun H locs hR => ?_)
  refine lv_goto (tgt := 19) hx hb (dk DL_level 9 rfl) (by decide) ?_
  refine lv_iconst (v := (0 : Int32)) hx hb (dk DL_level 13 rfl) (by decide) ?_
  exact w_ret C hrt hR rfl rfl (dk DL_level 14 rfl)
set_option maxRecDepth 20000 in
theorem W_level_2 (l : Launch) (hl0 : l.stackTraces = false) (G : GG) (a1 : Int32) (a2 : Int32) (a3 : Int32) (m0 : Mem) (m1 : Mem) (hF : F_T_level a1 a2 a3 m0 = some (.inl 2, m1)) : Wt l G yL_level cL_level 6 [(0, 12, 15, 24)] 10 [.ref (G.2.1 + 0), .int a1, .int a2, .int a3, .ref (G.2.1 + 91)] m0 (.inl 2) 1 m1 := by
  refine Wt_of hl0 (by decide) (Nat.le_of_ble_eq_true rfl) ?_
  intro p e s mid args below meth c ls C hN hrt htab hl hR
  have hx := C.1.1
  have hb := C.1.2.1
  have hl : lv_has ls 6 [(0, .ref (G.2.1 + 0)), (1, .int a1), (2, .int a2), (3, .int a3), (4, .ref (G.2.1 + 91))] := hl
  refine lv_aload hx hb (dk DL_level 0 rfl) (lv_at hl 4 rfl) ?_
  refine lv_iconst (v := (0 : Int32)) hx hb (dk DL_level 1 rfl) (by decide) ?_
  refine lv_aload_n hx hb (dk DL_level 2 rfl) rfl (lv_at hl 0 rfl) ?_
  refine lv_iload_n hx hb (dk DL_level 3 rfl) rfl (lv_at hl 1 rfl) ?_
  refine lv_iload_n hx hb (dk DL_level 4 rfl) rfl (lv_at hl 2 rfl) ?_
  refine lv_iload_n hx hb (dk DL_level 5 rfl) rfl (lv_at hl 3 rfl) ?_
  have hM := C_T_level l hl0 G a1 a2 a3 m0 (Sum.inl 2) m1 hF
  rw [show ouI (Sum.inl 2) = (Sum.inl 2 : Ou) from rfl] at hM
  refine x_thr hR (x_runV (As := [.int a1, .int a2, .int a3]) (rest := [.int (0 : Int32), .ref (G.2.1 + 91)]) C hR hM (by decide) (by decide) ob0 rfl wL_36 rfl rfl (Nat.le_of_ble_eq_true rfl) hl.1 ⟨Nat.le_refl 1, Nat.le_refl 6⟩ (dk DL_level 6 rfl)) (fun H locs ce q hR h3 h4 h5 => ?_)
  refine w_catch (pre := []) (suf := []) (a := 0) (b := 12) (h := 15) (ct := 24) (k := 2) C hN htab rfl (by decide) (fun z hz => nomatch hz) rfl (by decide) (gd q1126 rfl) h3 h4 h5 ?_
  refine lv_astore (lv' := [(5, .ref q), (0, .ref (G.2.1 + 0)), (1, .int a1), (2, .int a2), (3, .int a3), (4, .ref (G.2.1 + 91))]) hx hb (dk DL_level 10 rfl) hl (by decide) rfl (fun ls hl => ?_)
  refine lv_iconst (v := (1 : Int32)) hx hb (dk DL_level 11 rfl) (by decide) ?_
  exact w_ret C hrt hR rfl rfl (dk DL_level 12 rfl)
set_option maxRecDepth 20000 in
theorem W_match_n (l : Launch) (hl0 : l.stackTraces = false) (G : GG) (a1 : Int32) (m0 : Mem) (v : Int32) (m1 : Mem) (hF : F_T_match a1 m0 = some (.inr v, m1)) : Wt l G yL_match cL_match 4 [(0, 9, 12, 34)] 9 [.ref (G.2.1 + 0), .int a1, .ref (G.2.1 + 91)] m0 (.inr none) 0 (sL m1 91 0 v.toInt64) := by
  refine Wt_of hl0 (by decide) (Nat.le_of_ble_eq_true rfl) ?_
  intro p e s mid args below meth c ls C hN hrt htab hl hR
  have hx := C.1.1
  have hb := C.1.2.1
  have hl : lv_has ls 4 [(0, .ref (G.2.1 + 0)), (1, .int a1), (2, .ref (G.2.1 + 91))] := hl
  refine lv_aload_n hx hb (dk DL_match 0 rfl) rfl (lv_at hl 2 rfl) ?_
  refine lv_iconst (v := (0 : Int32)) hx hb (dk DL_match 1 rfl) (by decide) ?_
  refine lv_aload_n hx hb (dk DL_match 2 rfl) rfl (lv_at hl 0 rfl) ?_
  refine lv_iload_n hx hb (dk DL_match 3 rfl) rfl (lv_at hl 1 rfl) ?_
  have hM := C_T_match l hl0 G a1 m0 (Sum.inr v) m1 hF
  rw [show ouI (Sum.inr v) = (Sum.inr (some (.int v)) : Ou) from rfl] at hM
  refine x_callVi (As := [.int a1]) (rest := [.int (0 : Int32), .ref (G.2.1 + 91)]) C hR hM (by decide) (by decide) ob0 rfl wL_40 rfl rfl (Nat.le_of_ble_eq_true rfl) hl.1 ⟨Nat.zero_le _, Nat.zero_le _⟩ (dk DL_match 4 rfl) (fun H locs hR => ?_)
  refine lv_i2l hx hb (dk DL_match 5 rfl) rfl ?_
  refine r_last C hR ob91 rfl (dk DL_match 6 rfl) (fun H locs hR => ?_)
  refine lv_goto (tgt := 15) hx hb (dk DL_match 7 rfl) (by decide) ?_
  refine lv_iconst (v := (0 : Int32)) hx hb (dk DL_match 11 rfl) (by decide) ?_
  exact w_ret C hrt hR rfl rfl (dk DL_match 12 rfl)
set_option maxRecDepth 20000 in
theorem W_match_4 (l : Launch) (hl0 : l.stackTraces = false) (G : GG) (a1 : Int32) (m0 : Mem) (m1 : Mem) (hF : F_T_match a1 m0 = some (.inl 4, m1)) : Wt l G yL_match cL_match 4 [(0, 9, 12, 34)] 9 [.ref (G.2.1 + 0), .int a1, .ref (G.2.1 + 91)] m0 (.inl 4) 1 m1 := by
  refine Wt_of hl0 (by decide) (Nat.le_of_ble_eq_true rfl) ?_
  intro p e s mid args below meth c ls C hN hrt htab hl hR
  have hx := C.1.1
  have hb := C.1.2.1
  have hl : lv_has ls 4 [(0, .ref (G.2.1 + 0)), (1, .int a1), (2, .ref (G.2.1 + 91))] := hl
  refine lv_aload_n hx hb (dk DL_match 0 rfl) rfl (lv_at hl 2 rfl) ?_
  refine lv_iconst (v := (0 : Int32)) hx hb (dk DL_match 1 rfl) (by decide) ?_
  refine lv_aload_n hx hb (dk DL_match 2 rfl) rfl (lv_at hl 0 rfl) ?_
  refine lv_iload_n hx hb (dk DL_match 3 rfl) rfl (lv_at hl 1 rfl) ?_
  have hM := C_T_match l hl0 G a1 m0 (Sum.inl 4) m1 hF
  rw [show ouI (Sum.inl 4) = (Sum.inl 4 : Ou) from rfl] at hM
  refine x_thr hR (x_runV (As := [.int a1]) (rest := [.int (0 : Int32), .ref (G.2.1 + 91)]) C hR hM (by decide) (by decide) ob0 rfl wL_40 rfl rfl (Nat.le_of_ble_eq_true rfl) hl.1 ⟨Nat.le_refl 1, Nat.le_refl 6⟩ (dk DL_match 4 rfl)) (fun H locs ce q hR h3 h4 h5 => ?_)
  refine w_catch (pre := []) (suf := []) (a := 0) (b := 9) (h := 12) (ct := 34) (k := 4) C hN htab rfl (by decide) (fun z hz => nomatch hz) rfl (by decide) (gd q1165 rfl) h3 h4 h5 ?_
  refine lv_astore_n (lv' := [(3, .ref q), (0, .ref (G.2.1 + 0)), (1, .int a1), (2, .ref (G.2.1 + 91))]) hx hb (dk DL_match 8 rfl) rfl hl (by decide) rfl (fun ls hl => ?_)
  refine lv_iconst (v := (1 : Int32)) hx hb (dk DL_match 9 rfl) (by decide) ?_
  exact w_ret C hrt hR rfl rfl (dk DL_match 10 rfl)
set_option maxRecDepth 20000 in
theorem W_toss_n (l : Launch) (hl0 : l.stackTraces = false) (G : GG) (a1 : Int32) (m0 : Mem) (v : Int32) (m1 : Mem) (hF : F_T_toss a1 m0 = some (.inr v, m1)) : Wt l G yL_toss cL_toss 4 [(0, 9, 12, 24), (0, 9, 15, 47)] 10 [.ref (G.2.1 + 0), .int a1, .ref (G.2.1 + 91)] m0 (.inr none) 0 (sL m1 91 0 v.toInt64) := by
  refine Wt_of hl0 (by decide) (Nat.le_of_ble_eq_true rfl) ?_
  intro p e s mid args below meth c ls C hN hrt htab hl hR
  have hx := C.1.1
  have hb := C.1.2.1
  have hl : lv_has ls 4 [(0, .ref (G.2.1 + 0)), (1, .int a1), (2, .ref (G.2.1 + 91))] := hl
  refine lv_aload_n hx hb (dk DL_toss 0 rfl) rfl (lv_at hl 2 rfl) ?_
  refine lv_iconst (v := (0 : Int32)) hx hb (dk DL_toss 1 rfl) (by decide) ?_
  refine lv_aload_n hx hb (dk DL_toss 2 rfl) rfl (lv_at hl 0 rfl) ?_
  refine lv_iload_n hx hb (dk DL_toss 3 rfl) rfl (lv_at hl 1 rfl) ?_
  have hM := C_T_toss l hl0 G a1 m0 (Sum.inr v) m1 hF
  rw [show ouI (Sum.inr v) = (Sum.inr (some (.int v)) : Ou) from rfl] at hM
  refine x_callVi (As := [.int a1]) (rest := [.int (0 : Int32), .ref (G.2.1 + 91)]) C hR hM (by decide) (by decide) ob0 rfl wL_44 rfl rfl (Nat.le_of_ble_eq_true rfl) hl.1 ⟨Nat.zero_le _, Nat.zero_le _⟩ (dk DL_toss 4 rfl) (fun H locs hR => ?_)
  refine lv_i2l hx hb (dk DL_toss 5 rfl) rfl ?_
  refine r_last C hR ob91 rfl (dk DL_toss 6 rfl) (fun H locs hR => ?_)
  refine lv_goto (tgt := 18) hx hb (dk DL_toss 7 rfl) (by decide) ?_
  refine lv_iconst (v := (0 : Int32)) hx hb (dk DL_toss 14 rfl) (by decide) ?_
  exact w_ret C hrt hR rfl rfl (dk DL_toss 15 rfl)
set_option maxRecDepth 20000 in
theorem W_toss_2 (l : Launch) (hl0 : l.stackTraces = false) (G : GG) (a1 : Int32) (m0 : Mem) (m1 : Mem) (hF : F_T_toss a1 m0 = some (.inl 2, m1)) : Wt l G yL_toss cL_toss 4 [(0, 9, 12, 24), (0, 9, 15, 47)] 10 [.ref (G.2.1 + 0), .int a1, .ref (G.2.1 + 91)] m0 (.inl 2) 1 m1 := by
  refine Wt_of hl0 (by decide) (Nat.le_of_ble_eq_true rfl) ?_
  intro p e s mid args below meth c ls C hN hrt htab hl hR
  have hx := C.1.1
  have hb := C.1.2.1
  have hl : lv_has ls 4 [(0, .ref (G.2.1 + 0)), (1, .int a1), (2, .ref (G.2.1 + 91))] := hl
  refine lv_aload_n hx hb (dk DL_toss 0 rfl) rfl (lv_at hl 2 rfl) ?_
  refine lv_iconst (v := (0 : Int32)) hx hb (dk DL_toss 1 rfl) (by decide) ?_
  refine lv_aload_n hx hb (dk DL_toss 2 rfl) rfl (lv_at hl 0 rfl) ?_
  refine lv_iload_n hx hb (dk DL_toss 3 rfl) rfl (lv_at hl 1 rfl) ?_
  have hM := C_T_toss l hl0 G a1 m0 (Sum.inl 2) m1 hF
  rw [show ouI (Sum.inl 2) = (Sum.inl 2 : Ou) from rfl] at hM
  refine x_thr hR (x_runV (As := [.int a1]) (rest := [.int (0 : Int32), .ref (G.2.1 + 91)]) C hR hM (by decide) (by decide) ob0 rfl wL_44 rfl rfl (Nat.le_of_ble_eq_true rfl) hl.1 ⟨Nat.le_refl 1, Nat.le_refl 6⟩ (dk DL_toss 4 rfl)) (fun H locs ce q hR h3 h4 h5 => ?_)
  refine w_catch (pre := []) (suf := [(0, 9, 15, 47)]) (a := 0) (b := 9) (h := 12) (ct := 24) (k := 2) C hN htab rfl (by decide) (fun z hz => nomatch hz) rfl (by decide) (gd q1126 rfl) h3 h4 h5 ?_
  refine lv_astore_n (lv' := [(3, .ref q), (0, .ref (G.2.1 + 0)), (1, .int a1), (2, .ref (G.2.1 + 91))]) hx hb (dk DL_toss 8 rfl) rfl hl (by decide) rfl (fun ls hl => ?_)
  refine lv_iconst (v := (1 : Int32)) hx hb (dk DL_toss 9 rfl) (by decide) ?_
  exact w_ret C hrt hR rfl rfl (dk DL_toss 10 rfl)
set_option maxRecDepth 20000 in
theorem W_toss_0 (l : Launch) (hl0 : l.stackTraces = false) (G : GG) (a1 : Int32) (m0 : Mem) (m1 : Mem) (hF : F_T_toss a1 m0 = some (.inl 0, m1)) : Wt l G yL_toss cL_toss 4 [(0, 9, 12, 24), (0, 9, 15, 47)] 10 [.ref (G.2.1 + 0), .int a1, .ref (G.2.1 + 91)] m0 (.inl 0) 2 m1 := by
  refine Wt_of hl0 (by decide) (Nat.le_of_ble_eq_true rfl) ?_
  intro p e s mid args below meth c ls C hN hrt htab hl hR
  have hx := C.1.1
  have hb := C.1.2.1
  have hl : lv_has ls 4 [(0, .ref (G.2.1 + 0)), (1, .int a1), (2, .ref (G.2.1 + 91))] := hl
  refine lv_aload_n hx hb (dk DL_toss 0 rfl) rfl (lv_at hl 2 rfl) ?_
  refine lv_iconst (v := (0 : Int32)) hx hb (dk DL_toss 1 rfl) (by decide) ?_
  refine lv_aload_n hx hb (dk DL_toss 2 rfl) rfl (lv_at hl 0 rfl) ?_
  refine lv_iload_n hx hb (dk DL_toss 3 rfl) rfl (lv_at hl 1 rfl) ?_
  have hM := C_T_toss l hl0 G a1 m0 (Sum.inl 0) m1 hF
  rw [show ouI (Sum.inl 0) = (Sum.inl 0 : Ou) from rfl] at hM
  refine x_thr hR (x_runV (As := [.int a1]) (rest := [.int (0 : Int32), .ref (G.2.1 + 91)]) C hR hM (by decide) (by decide) ob0 rfl wL_44 rfl rfl (Nat.le_of_ble_eq_true rfl) hl.1 ⟨Nat.le_refl 1, Nat.le_refl 6⟩ (dk DL_toss 4 rfl)) (fun H locs ce q hR h3 h4 h5 => ?_)
  refine w_catch (pre := [(0, 9, 12, 24)]) (suf := []) (a := 0) (b := 9) (h := 15) (ct := 47) (k := 0) C hN htab rfl (by decide) (List.forall_mem_cons.mpr ⟨⟨by decide, 2, by decide, by decide, (gd q1126 rfl)⟩, (fun z hz => nomatch hz)⟩) rfl (by decide) (gd q1234 rfl) h3 h4 h5 ?_
  refine lv_astore_n (lv' := [(3, .ref q), (0, .ref (G.2.1 + 0)), (1, .int a1), (2, .ref (G.2.1 + 91))]) hx hb (dk DL_toss 11 rfl) rfl hl (by decide) rfl (fun ls hl => ?_)
  refine lv_iconst (v := (2 : Int32)) hx hb (dk DL_toss 12 rfl) (by decide) ?_
  exact w_ret C hrt hR rfl rfl (dk DL_toss 13 rfl)
set_option maxRecDepth 20000 in
theorem W_play_n (l : Launch) (hl0 : l.stackTraces = false) (G : GG)  (m0 : Mem) (v : Int32) (m1 : Mem) (hF : F_T_play m0 = some (.inr v, m1)) : Wt l G yL_play cL_play 3 [(0, 8, 11, 47)] 10 [.ref (G.2.1 + 0), .ref (G.2.1 + 91)] m0 (.inr none) 0 (sL m1 91 0 v.toInt64) := by
  refine Wt_of hl0 (by decide) (Nat.le_of_ble_eq_true rfl) ?_
  intro p e s mid args below meth c ls C hN hrt htab hl hR
  have hx := C.1.1
  have hb := C.1.2.1
  have hl : lv_has ls 3 [(0, .ref (G.2.1 + 0)), (1, .ref (G.2.1 + 91))] := hl
  refine lv_aload_n hx hb (dk DL_play 0 rfl) rfl (lv_at hl 1 rfl) ?_
  refine lv_iconst (v := (0 : Int32)) hx hb (dk DL_play 1 rfl) (by decide) ?_
  refine lv_aload_n hx hb (dk DL_play 2 rfl) rfl (lv_at hl 0 rfl) ?_
  have hM := C_T_play l hl0 G  m0 (Sum.inr v) m1 hF
  rw [show ouI (Sum.inr v) = (Sum.inr (some (.int v)) : Ou) from rfl] at hM
  refine x_callVi (As := []) (rest := [.int (0 : Int32), .ref (G.2.1 + 91)]) C hR hM (by decide) (by decide) ob0 rfl wL_49 rfl rfl (Nat.le_of_ble_eq_true rfl) hl.1 ⟨Nat.zero_le _, Nat.zero_le _⟩ (dk DL_play 3 rfl) (fun H locs hR => ?_)
  refine lv_i2l hx hb (dk DL_play 4 rfl) rfl ?_
  refine r_last C hR ob91 rfl (dk DL_play 5 rfl) (fun H locs hR => ?_)
  refine lv_goto (tgt := 14) hx hb (dk DL_play 6 rfl) (by decide) ?_
  refine lv_iconst (v := (0 : Int32)) hx hb (dk DL_play 10 rfl) (by decide) ?_
  exact w_ret C hrt hR rfl rfl (dk DL_play 11 rfl)
set_option maxRecDepth 20000 in
theorem W_play_0 (l : Launch) (hl0 : l.stackTraces = false) (G : GG)  (m0 : Mem) (m1 : Mem) (hF : F_T_play m0 = some (.inl 0, m1)) : Wt l G yL_play cL_play 3 [(0, 8, 11, 47)] 10 [.ref (G.2.1 + 0), .ref (G.2.1 + 91)] m0 (.inl 0) 1 m1 := by
  refine Wt_of hl0 (by decide) (Nat.le_of_ble_eq_true rfl) ?_
  intro p e s mid args below meth c ls C hN hrt htab hl hR
  have hx := C.1.1
  have hb := C.1.2.1
  have hl : lv_has ls 3 [(0, .ref (G.2.1 + 0)), (1, .ref (G.2.1 + 91))] := hl
  refine lv_aload_n hx hb (dk DL_play 0 rfl) rfl (lv_at hl 1 rfl) ?_
  refine lv_iconst (v := (0 : Int32)) hx hb (dk DL_play 1 rfl) (by decide) ?_
  refine lv_aload_n hx hb (dk DL_play 2 rfl) rfl (lv_at hl 0 rfl) ?_
  have hM := C_T_play l hl0 G  m0 (Sum.inl 0) m1 hF
  rw [show ouI (Sum.inl 0) = (Sum.inl 0 : Ou) from rfl] at hM
  refine x_thr hR (x_runV (As := []) (rest := [.int (0 : Int32), .ref (G.2.1 + 91)]) C hR hM (by decide) (by decide) ob0 rfl wL_49 rfl rfl (Nat.le_of_ble_eq_true rfl) hl.1 ⟨Nat.le_refl 1, Nat.le_refl 6⟩ (dk DL_play 3 rfl)) (fun H locs ce q hR h3 h4 h5 => ?_)
  refine w_catch (pre := []) (suf := []) (a := 0) (b := 8) (h := 11) (ct := 47) (k := 0) C hN htab rfl (by decide) (fun z hz => nomatch hz) rfl (by decide) (gd q1234 rfl) h3 h4 h5 ?_
  refine lv_astore_n (lv' := [(2, .ref q), (0, .ref (G.2.1 + 0)), (1, .ref (G.2.1 + 91))]) hx hb (dk DL_play 7 rfl) rfl hl (by decide) rfl (fun ls hl => ?_)
  refine lv_iconst (v := (1 : Int32)) hx hb (dk DL_play 8 rfl) (by decide) ?_
  exact w_ret C hrt hR rfl rfl (dk DL_play 9 rfl)
set_option maxRecDepth 20000 in
theorem W_bring_n (l : Launch) (hl0 : l.stackTraces = false) (G : GG) (a1 : Int32) (m0 : Mem) (v : Int32) (m1 : Mem) (hF : F_T_bring a1 m0 = some (.inr v, m1)) : Wt l G yL_bring cL_bring 4 [(0, 9, 12, 24), (0, 9, 15, 47)] 10 [.ref (G.2.1 + 0), .int a1, .ref (G.2.1 + 91)] m0 (.inr none) 0 (sL m1 91 0 v.toInt64) := by
  refine Wt_of hl0 (by decide) (Nat.le_of_ble_eq_true rfl) ?_
  intro p e s mid args below meth c ls C hN hrt htab hl hR
  have hx := C.1.1
  have hb := C.1.2.1
  have hl : lv_has ls 4 [(0, .ref (G.2.1 + 0)), (1, .int a1), (2, .ref (G.2.1 + 91))] := hl
  refine lv_aload_n hx hb (dk DL_bring 0 rfl) rfl (lv_at hl 2 rfl) ?_
  refine lv_iconst (v := (0 : Int32)) hx hb (dk DL_bring 1 rfl) (by decide) ?_
  refine lv_aload_n hx hb (dk DL_bring 2 rfl) rfl (lv_at hl 0 rfl) ?_
  refine lv_iload_n hx hb (dk DL_bring 3 rfl) rfl (lv_at hl 1 rfl) ?_
  have hM := C_T_bring l hl0 G a1 m0 (Sum.inr v) m1 hF
  rw [show ouI (Sum.inr v) = (Sum.inr (some (.int v)) : Ou) from rfl] at hM
  refine x_callVi (As := [.int a1]) (rest := [.int (0 : Int32), .ref (G.2.1 + 91)]) C hR hM (by decide) (by decide) ob0 rfl wL_52 rfl rfl (Nat.le_of_ble_eq_true rfl) hl.1 ⟨Nat.zero_le _, Nat.zero_le _⟩ (dk DL_bring 4 rfl) (fun H locs hR => ?_)
  refine lv_i2l hx hb (dk DL_bring 5 rfl) rfl ?_
  refine r_last C hR ob91 rfl (dk DL_bring 6 rfl) (fun H locs hR => ?_)
  refine lv_goto (tgt := 18) hx hb (dk DL_bring 7 rfl) (by decide) ?_
  refine lv_iconst (v := (0 : Int32)) hx hb (dk DL_bring 14 rfl) (by decide) ?_
  exact w_ret C hrt hR rfl rfl (dk DL_bring 15 rfl)
set_option maxRecDepth 20000 in
theorem W_bring_2 (l : Launch) (hl0 : l.stackTraces = false) (G : GG) (a1 : Int32) (m0 : Mem) (m1 : Mem) (hF : F_T_bring a1 m0 = some (.inl 2, m1)) : Wt l G yL_bring cL_bring 4 [(0, 9, 12, 24), (0, 9, 15, 47)] 10 [.ref (G.2.1 + 0), .int a1, .ref (G.2.1 + 91)] m0 (.inl 2) 1 m1 := by
  refine Wt_of hl0 (by decide) (Nat.le_of_ble_eq_true rfl) ?_
  intro p e s mid args below meth c ls C hN hrt htab hl hR
  have hx := C.1.1
  have hb := C.1.2.1
  have hl : lv_has ls 4 [(0, .ref (G.2.1 + 0)), (1, .int a1), (2, .ref (G.2.1 + 91))] := hl
  refine lv_aload_n hx hb (dk DL_bring 0 rfl) rfl (lv_at hl 2 rfl) ?_
  refine lv_iconst (v := (0 : Int32)) hx hb (dk DL_bring 1 rfl) (by decide) ?_
  refine lv_aload_n hx hb (dk DL_bring 2 rfl) rfl (lv_at hl 0 rfl) ?_
  refine lv_iload_n hx hb (dk DL_bring 3 rfl) rfl (lv_at hl 1 rfl) ?_
  have hM := C_T_bring l hl0 G a1 m0 (Sum.inl 2) m1 hF
  rw [show ouI (Sum.inl 2) = (Sum.inl 2 : Ou) from rfl] at hM
  refine x_thr hR (x_runV (As := [.int a1]) (rest := [.int (0 : Int32), .ref (G.2.1 + 91)]) C hR hM (by decide) (by decide) ob0 rfl wL_52 rfl rfl (Nat.le_of_ble_eq_true rfl) hl.1 ⟨Nat.le_refl 1, Nat.le_refl 6⟩ (dk DL_bring 4 rfl)) (fun H locs ce q hR h3 h4 h5 => ?_)
  refine w_catch (pre := []) (suf := [(0, 9, 15, 47)]) (a := 0) (b := 9) (h := 12) (ct := 24) (k := 2) C hN htab rfl (by decide) (fun z hz => nomatch hz) rfl (by decide) (gd q1126 rfl) h3 h4 h5 ?_
  refine lv_astore_n (lv' := [(3, .ref q), (0, .ref (G.2.1 + 0)), (1, .int a1), (2, .ref (G.2.1 + 91))]) hx hb (dk DL_bring 8 rfl) rfl hl (by decide) rfl (fun ls hl => ?_)
  refine lv_iconst (v := (1 : Int32)) hx hb (dk DL_bring 9 rfl) (by decide) ?_
  exact w_ret C hrt hR rfl rfl (dk DL_bring 10 rfl)
set_option maxRecDepth 20000 in
theorem W_bring_0 (l : Launch) (hl0 : l.stackTraces = false) (G : GG) (a1 : Int32) (m0 : Mem) (m1 : Mem) (hF : F_T_bring a1 m0 = some (.inl 0, m1)) : Wt l G yL_bring cL_bring 4 [(0, 9, 12, 24), (0, 9, 15, 47)] 10 [.ref (G.2.1 + 0), .int a1, .ref (G.2.1 + 91)] m0 (.inl 0) 2 m1 := by
  refine Wt_of hl0 (by decide) (Nat.le_of_ble_eq_true rfl) ?_
  intro p e s mid args below meth c ls C hN hrt htab hl hR
  have hx := C.1.1
  have hb := C.1.2.1
  have hl : lv_has ls 4 [(0, .ref (G.2.1 + 0)), (1, .int a1), (2, .ref (G.2.1 + 91))] := hl
  refine lv_aload_n hx hb (dk DL_bring 0 rfl) rfl (lv_at hl 2 rfl) ?_
  refine lv_iconst (v := (0 : Int32)) hx hb (dk DL_bring 1 rfl) (by decide) ?_
  refine lv_aload_n hx hb (dk DL_bring 2 rfl) rfl (lv_at hl 0 rfl) ?_
  refine lv_iload_n hx hb (dk DL_bring 3 rfl) rfl (lv_at hl 1 rfl) ?_
  have hM := C_T_bring l hl0 G a1 m0 (Sum.inl 0) m1 hF
  rw [show ouI (Sum.inl 0) = (Sum.inl 0 : Ou) from rfl] at hM
  refine x_thr hR (x_runV (As := [.int a1]) (rest := [.int (0 : Int32), .ref (G.2.1 + 91)]) C hR hM (by decide) (by decide) ob0 rfl wL_52 rfl rfl (Nat.le_of_ble_eq_true rfl) hl.1 ⟨Nat.le_refl 1, Nat.le_refl 6⟩ (dk DL_bring 4 rfl)) (fun H locs ce q hR h3 h4 h5 => ?_)
  refine w_catch (pre := [(0, 9, 12, 24)]) (suf := []) (a := 0) (b := 9) (h := 15) (ct := 47) (k := 0) C hN htab rfl (by decide) (List.forall_mem_cons.mpr ⟨⟨by decide, 2, by decide, by decide, (gd q1126 rfl)⟩, (fun z hz => nomatch hz)⟩) rfl (by decide) (gd q1234 rfl) h3 h4 h5 ?_
  refine lv_astore_n (lv' := [(3, .ref q), (0, .ref (G.2.1 + 0)), (1, .int a1), (2, .ref (G.2.1 + 91))]) hx hb (dk DL_bring 11 rfl) rfl hl (by decide) rfl (fun ls hl => ?_)
  refine lv_iconst (v := (2 : Int32)) hx hb (dk DL_bring 12 rfl) (by decide) ?_
  exact w_ret C hrt hR rfl rfl (dk DL_bring 13 rfl)
set_option maxRecDepth 20000 in
theorem W_hold_n (l : Launch) (hl0 : l.stackTraces = false) (G : GG) (a1 : Int32) (m0 : Mem) (v : Int32) (m1 : Mem) (hF : F_T_hold a1 m0 = some (.inr v, m1)) : Wt l G yL_hold cL_hold 4 [(0, 9, 12, 24), (0, 9, 15, 47)] 10 [.ref (G.2.1 + 0), .int a1, .ref (G.2.1 + 91)] m0 (.inr none) 0 (sL m1 91 0 v.toInt64) := by
  refine Wt_of hl0 (by decide) (Nat.le_of_ble_eq_true rfl) ?_
  intro p e s mid args below meth c ls C hN hrt htab hl hR
  have hx := C.1.1
  have hb := C.1.2.1
  have hl : lv_has ls 4 [(0, .ref (G.2.1 + 0)), (1, .int a1), (2, .ref (G.2.1 + 91))] := hl
  refine lv_aload_n hx hb (dk DL_hold 0 rfl) rfl (lv_at hl 2 rfl) ?_
  refine lv_iconst (v := (0 : Int32)) hx hb (dk DL_hold 1 rfl) (by decide) ?_
  refine lv_aload_n hx hb (dk DL_hold 2 rfl) rfl (lv_at hl 0 rfl) ?_
  refine lv_iload_n hx hb (dk DL_hold 3 rfl) rfl (lv_at hl 1 rfl) ?_
  have hM := C_T_hold l hl0 G a1 m0 (Sum.inr v) m1 hF
  rw [show ouI (Sum.inr v) = (Sum.inr (some (.int v)) : Ou) from rfl] at hM
  refine x_callVi (As := [.int a1]) (rest := [.int (0 : Int32), .ref (G.2.1 + 91)]) C hR hM (by decide) (by decide) ob0 rfl wL_55 rfl rfl (Nat.le_of_ble_eq_true rfl) hl.1 ⟨Nat.zero_le _, Nat.zero_le _⟩ (dk DL_hold 4 rfl) (fun H locs hR => ?_)
  refine lv_i2l hx hb (dk DL_hold 5 rfl) rfl ?_
  refine r_last C hR ob91 rfl (dk DL_hold 6 rfl) (fun H locs hR => ?_)
  refine lv_goto (tgt := 18) hx hb (dk DL_hold 7 rfl) (by decide) ?_
  refine lv_iconst (v := (0 : Int32)) hx hb (dk DL_hold 14 rfl) (by decide) ?_
  exact w_ret C hrt hR rfl rfl (dk DL_hold 15 rfl)
set_option maxRecDepth 20000 in
theorem W_hold_2 (l : Launch) (hl0 : l.stackTraces = false) (G : GG) (a1 : Int32) (m0 : Mem) (m1 : Mem) (hF : F_T_hold a1 m0 = some (.inl 2, m1)) : Wt l G yL_hold cL_hold 4 [(0, 9, 12, 24), (0, 9, 15, 47)] 10 [.ref (G.2.1 + 0), .int a1, .ref (G.2.1 + 91)] m0 (.inl 2) 1 m1 := by
  refine Wt_of hl0 (by decide) (Nat.le_of_ble_eq_true rfl) ?_
  intro p e s mid args below meth c ls C hN hrt htab hl hR
  have hx := C.1.1
  have hb := C.1.2.1
  have hl : lv_has ls 4 [(0, .ref (G.2.1 + 0)), (1, .int a1), (2, .ref (G.2.1 + 91))] := hl
  refine lv_aload_n hx hb (dk DL_hold 0 rfl) rfl (lv_at hl 2 rfl) ?_
  refine lv_iconst (v := (0 : Int32)) hx hb (dk DL_hold 1 rfl) (by decide) ?_
  refine lv_aload_n hx hb (dk DL_hold 2 rfl) rfl (lv_at hl 0 rfl) ?_
  refine lv_iload_n hx hb (dk DL_hold 3 rfl) rfl (lv_at hl 1 rfl) ?_
  have hM := C_T_hold l hl0 G a1 m0 (Sum.inl 2) m1 hF
  rw [show ouI (Sum.inl 2) = (Sum.inl 2 : Ou) from rfl] at hM
  refine x_thr hR (x_runV (As := [.int a1]) (rest := [.int (0 : Int32), .ref (G.2.1 + 91)]) C hR hM (by decide) (by decide) ob0 rfl wL_55 rfl rfl (Nat.le_of_ble_eq_true rfl) hl.1 ⟨Nat.le_refl 1, Nat.le_refl 6⟩ (dk DL_hold 4 rfl)) (fun H locs ce q hR h3 h4 h5 => ?_)
  refine w_catch (pre := []) (suf := [(0, 9, 15, 47)]) (a := 0) (b := 9) (h := 12) (ct := 24) (k := 2) C hN htab rfl (by decide) (fun z hz => nomatch hz) rfl (by decide) (gd q1126 rfl) h3 h4 h5 ?_
  refine lv_astore_n (lv' := [(3, .ref q), (0, .ref (G.2.1 + 0)), (1, .int a1), (2, .ref (G.2.1 + 91))]) hx hb (dk DL_hold 8 rfl) rfl hl (by decide) rfl (fun ls hl => ?_)
  refine lv_iconst (v := (1 : Int32)) hx hb (dk DL_hold 9 rfl) (by decide) ?_
  exact w_ret C hrt hR rfl rfl (dk DL_hold 10 rfl)
set_option maxRecDepth 20000 in
theorem W_hold_0 (l : Launch) (hl0 : l.stackTraces = false) (G : GG) (a1 : Int32) (m0 : Mem) (m1 : Mem) (hF : F_T_hold a1 m0 = some (.inl 0, m1)) : Wt l G yL_hold cL_hold 4 [(0, 9, 12, 24), (0, 9, 15, 47)] 10 [.ref (G.2.1 + 0), .int a1, .ref (G.2.1 + 91)] m0 (.inl 0) 2 m1 := by
  refine Wt_of hl0 (by decide) (Nat.le_of_ble_eq_true rfl) ?_
  intro p e s mid args below meth c ls C hN hrt htab hl hR
  have hx := C.1.1
  have hb := C.1.2.1
  have hl : lv_has ls 4 [(0, .ref (G.2.1 + 0)), (1, .int a1), (2, .ref (G.2.1 + 91))] := hl
  refine lv_aload_n hx hb (dk DL_hold 0 rfl) rfl (lv_at hl 2 rfl) ?_
  refine lv_iconst (v := (0 : Int32)) hx hb (dk DL_hold 1 rfl) (by decide) ?_
  refine lv_aload_n hx hb (dk DL_hold 2 rfl) rfl (lv_at hl 0 rfl) ?_
  refine lv_iload_n hx hb (dk DL_hold 3 rfl) rfl (lv_at hl 1 rfl) ?_
  have hM := C_T_hold l hl0 G a1 m0 (Sum.inl 0) m1 hF
  rw [show ouI (Sum.inl 0) = (Sum.inl 0 : Ou) from rfl] at hM
  refine x_thr hR (x_runV (As := [.int a1]) (rest := [.int (0 : Int32), .ref (G.2.1 + 91)]) C hR hM (by decide) (by decide) ob0 rfl wL_55 rfl rfl (Nat.le_of_ble_eq_true rfl) hl.1 ⟨Nat.le_refl 1, Nat.le_refl 6⟩ (dk DL_hold 4 rfl)) (fun H locs ce q hR h3 h4 h5 => ?_)
  refine w_catch (pre := [(0, 9, 12, 24)]) (suf := []) (a := 0) (b := 9) (h := 15) (ct := 47) (k := 0) C hN htab rfl (by decide) (List.forall_mem_cons.mpr ⟨⟨by decide, 2, by decide, by decide, (gd q1126 rfl)⟩, (fun z hz => nomatch hz)⟩) rfl (by decide) (gd q1234 rfl) h3 h4 h5 ?_
  refine lv_astore_n (lv' := [(3, .ref q), (0, .ref (G.2.1 + 0)), (1, .int a1), (2, .ref (G.2.1 + 91))]) hx hb (dk DL_hold 11 rfl) rfl hl (by decide) rfl (fun ls hl => ?_)
  refine lv_iconst (v := (2 : Int32)) hx hb (dk DL_hold 12 rfl) (by decide) ?_
  exact w_ret C hrt hR rfl rfl (dk DL_hold 13 rfl)
set_option maxRecDepth 20000 in
theorem W_declare_n (l : Launch) (hl0 : l.stackTraces = false) (G : GG)  (m0 : Mem) (v : Int32) (m1 : Mem) (hF : F_T_declare m0 = some (.inr v, m1)) : Wt l G yL_declare cL_declare 3 [(0, 8, 11, 47)] 9 [.ref (G.2.1 + 0), .ref (G.2.1 + 91)] m0 (.inr none) 0 (sL m1 91 0 v.toInt64) := by
  refine Wt_of hl0 (by decide) (Nat.le_of_ble_eq_true rfl) ?_
  intro p e s mid args below meth c ls C hN hrt htab hl hR
  have hx := C.1.1
  have hb := C.1.2.1
  have hl : lv_has ls 3 [(0, .ref (G.2.1 + 0)), (1, .ref (G.2.1 + 91))] := hl
  refine lv_aload_n hx hb (dk DL_declare 0 rfl) rfl (lv_at hl 1 rfl) ?_
  refine lv_iconst (v := (0 : Int32)) hx hb (dk DL_declare 1 rfl) (by decide) ?_
  refine lv_aload_n hx hb (dk DL_declare 2 rfl) rfl (lv_at hl 0 rfl) ?_
  have hM := C_T_declare l hl0 G  m0 (Sum.inr v) m1 hF
  rw [show ouI (Sum.inr v) = (Sum.inr (some (.int v)) : Ou) from rfl] at hM
  refine x_callVi (As := []) (rest := [.int (0 : Int32), .ref (G.2.1 + 91)]) C hR hM (by decide) (by decide) ob0 rfl wL_58 rfl rfl (Nat.le_of_ble_eq_true rfl) hl.1 ⟨Nat.zero_le _, Nat.zero_le _⟩ (dk DL_declare 3 rfl) (fun H locs hR => ?_)
  refine lv_i2l hx hb (dk DL_declare 4 rfl) rfl ?_
  refine r_last C hR ob91 rfl (dk DL_declare 5 rfl) (fun H locs hR => ?_)
  refine lv_goto (tgt := 14) hx hb (dk DL_declare 6 rfl) (by decide) ?_
  refine lv_iconst (v := (0 : Int32)) hx hb (dk DL_declare 10 rfl) (by decide) ?_
  exact w_ret C hrt hR rfl rfl (dk DL_declare 11 rfl)
set_option maxRecDepth 20000 in
theorem W_declare_0 (l : Launch) (hl0 : l.stackTraces = false) (G : GG)  (m0 : Mem) (m1 : Mem) (hF : F_T_declare m0 = some (.inl 0, m1)) : Wt l G yL_declare cL_declare 3 [(0, 8, 11, 47)] 9 [.ref (G.2.1 + 0), .ref (G.2.1 + 91)] m0 (.inl 0) 1 m1 := by
  refine Wt_of hl0 (by decide) (Nat.le_of_ble_eq_true rfl) ?_
  intro p e s mid args below meth c ls C hN hrt htab hl hR
  have hx := C.1.1
  have hb := C.1.2.1
  have hl : lv_has ls 3 [(0, .ref (G.2.1 + 0)), (1, .ref (G.2.1 + 91))] := hl
  refine lv_aload_n hx hb (dk DL_declare 0 rfl) rfl (lv_at hl 1 rfl) ?_
  refine lv_iconst (v := (0 : Int32)) hx hb (dk DL_declare 1 rfl) (by decide) ?_
  refine lv_aload_n hx hb (dk DL_declare 2 rfl) rfl (lv_at hl 0 rfl) ?_
  have hM := C_T_declare l hl0 G  m0 (Sum.inl 0) m1 hF
  rw [show ouI (Sum.inl 0) = (Sum.inl 0 : Ou) from rfl] at hM
  refine x_thr hR (x_runV (As := []) (rest := [.int (0 : Int32), .ref (G.2.1 + 91)]) C hR hM (by decide) (by decide) ob0 rfl wL_58 rfl rfl (Nat.le_of_ble_eq_true rfl) hl.1 ⟨Nat.le_refl 1, Nat.le_refl 6⟩ (dk DL_declare 3 rfl)) (fun H locs ce q hR h3 h4 h5 => ?_)
  refine w_catch (pre := []) (suf := []) (a := 0) (b := 8) (h := 11) (ct := 47) (k := 0) C hN htab rfl (by decide) (fun z hz => nomatch hz) rfl (by decide) (gd q1234 rfl) h3 h4 h5 ?_
  refine lv_astore_n (lv' := [(2, .ref q), (0, .ref (G.2.1 + 0)), (1, .ref (G.2.1 + 91))]) hx hb (dk DL_declare 7 rfl) rfl hl (by decide) rfl (fun ls hl => ?_)
  refine lv_iconst (v := (1 : Int32)) hx hb (dk DL_declare 8 rfl) (by decide) ?_
  exact w_ret C hrt hR rfl rfl (dk DL_declare 9 rfl)
set_option maxRecDepth 20000 in
theorem W_follow_n (l : Launch) (hl0 : l.stackTraces = false) (G : GG)  (m0 : Mem) (v : Int32) (m1 : Mem) (hF : F_T_follow m0 = some (.inr v, m1)) : Wt l G yL_follow cL_follow 3 [(0, 8, 11, 47)] 9 [.ref (G.2.1 + 0), .ref (G.2.1 + 91)] m0 (.inr none) 0 (sL m1 91 0 v.toInt64) := by
  refine Wt_of hl0 (by decide) (Nat.le_of_ble_eq_true rfl) ?_
  intro p e s mid args below meth c ls C hN hrt htab hl hR
  have hx := C.1.1
  have hb := C.1.2.1
  have hl : lv_has ls 3 [(0, .ref (G.2.1 + 0)), (1, .ref (G.2.1 + 91))] := hl
  refine lv_aload_n hx hb (dk DL_follow 0 rfl) rfl (lv_at hl 1 rfl) ?_
  refine lv_iconst (v := (0 : Int32)) hx hb (dk DL_follow 1 rfl) (by decide) ?_
  refine lv_aload_n hx hb (dk DL_follow 2 rfl) rfl (lv_at hl 0 rfl) ?_
  have hM := C_T_follow l hl0 G  m0 (Sum.inr v) m1 hF
  rw [show ouI (Sum.inr v) = (Sum.inr (some (.int v)) : Ou) from rfl] at hM
  refine x_callVi (As := []) (rest := [.int (0 : Int32), .ref (G.2.1 + 91)]) C hR hM (by decide) (by decide) ob0 rfl wL_61 rfl rfl (Nat.le_of_ble_eq_true rfl) hl.1 ⟨Nat.zero_le _, Nat.zero_le _⟩ (dk DL_follow 3 rfl) (fun H locs hR => ?_)
  refine lv_i2l hx hb (dk DL_follow 4 rfl) rfl ?_
  refine r_last C hR ob91 rfl (dk DL_follow 5 rfl) (fun H locs hR => ?_)
  refine lv_goto (tgt := 14) hx hb (dk DL_follow 6 rfl) (by decide) ?_
  refine lv_iconst (v := (0 : Int32)) hx hb (dk DL_follow 10 rfl) (by decide) ?_
  exact w_ret C hrt hR rfl rfl (dk DL_follow 11 rfl)
set_option maxRecDepth 20000 in
theorem W_follow_0 (l : Launch) (hl0 : l.stackTraces = false) (G : GG)  (m0 : Mem) (m1 : Mem) (hF : F_T_follow m0 = some (.inl 0, m1)) : Wt l G yL_follow cL_follow 3 [(0, 8, 11, 47)] 9 [.ref (G.2.1 + 0), .ref (G.2.1 + 91)] m0 (.inl 0) 1 m1 := by
  refine Wt_of hl0 (by decide) (Nat.le_of_ble_eq_true rfl) ?_
  intro p e s mid args below meth c ls C hN hrt htab hl hR
  have hx := C.1.1
  have hb := C.1.2.1
  have hl : lv_has ls 3 [(0, .ref (G.2.1 + 0)), (1, .ref (G.2.1 + 91))] := hl
  refine lv_aload_n hx hb (dk DL_follow 0 rfl) rfl (lv_at hl 1 rfl) ?_
  refine lv_iconst (v := (0 : Int32)) hx hb (dk DL_follow 1 rfl) (by decide) ?_
  refine lv_aload_n hx hb (dk DL_follow 2 rfl) rfl (lv_at hl 0 rfl) ?_
  have hM := C_T_follow l hl0 G  m0 (Sum.inl 0) m1 hF
  rw [show ouI (Sum.inl 0) = (Sum.inl 0 : Ou) from rfl] at hM
  refine x_thr hR (x_runV (As := []) (rest := [.int (0 : Int32), .ref (G.2.1 + 91)]) C hR hM (by decide) (by decide) ob0 rfl wL_61 rfl rfl (Nat.le_of_ble_eq_true rfl) hl.1 ⟨Nat.le_refl 1, Nat.le_refl 6⟩ (dk DL_follow 3 rfl)) (fun H locs ce q hR h3 h4 h5 => ?_)
  refine w_catch (pre := []) (suf := []) (a := 0) (b := 8) (h := 11) (ct := 47) (k := 0) C hN htab rfl (by decide) (fun z hz => nomatch hz) rfl (by decide) (gd q1234 rfl) h3 h4 h5 ?_
  refine lv_astore_n (lv' := [(2, .ref q), (0, .ref (G.2.1 + 0)), (1, .ref (G.2.1 + 91))]) hx hb (dk DL_follow 7 rfl) rfl hl (by decide) rfl (fun ls hl => ?_)
  refine lv_iconst (v := (1 : Int32)) hx hb (dk DL_follow 8 rfl) (by decide) ?_
  exact w_ret C hrt hR rfl rfl (dk DL_follow 9 rfl)
set_option maxRecDepth 20000 in
theorem W_here_n (l : Launch) (hl0 : l.stackTraces = false) (G : GG) (a1 : Int32) (m0 : Mem) (v : Int64) (m1 : Mem) (hF : F_T_here a1 m0 = some (.inr v, m1)) : Wt l G yL_here cL_here 4 [(0, 8, 11, 47), (0, 8, 14, 34)] 289 [.ref (G.2.1 + 0), .int a1, .ref (G.2.1 + 91)] m0 (.inr none) 0 (sL m1 91 0 v) := by
  refine Wt_of hl0 (by decide) (Nat.le_of_ble_eq_true rfl) ?_
  intro p e s mid args below meth c ls C hN hrt htab hl hR
  have hx := C.1.1
  have hb := C.1.2.1
  have hl : lv_has ls 4 [(0, .ref (G.2.1 + 0)), (1, .int a1), (2, .ref (G.2.1 + 91))] := hl
  refine lv_aload_n hx hb (dk DL_here 0 rfl) rfl (lv_at hl 2 rfl) ?_
  refine lv_iconst (v := (0 : Int32)) hx hb (dk DL_here 1 rfl) (by decide) ?_
  refine lv_aload_n hx hb (dk DL_here 2 rfl) rfl (lv_at hl 0 rfl) ?_
  refine lv_iload_n hx hb (dk DL_here 3 rfl) rfl (lv_at hl 1 rfl) ?_
  have hM := C_T_here l hl0 G a1 m0 (Sum.inr v) m1 hF
  rw [show ouL (Sum.inr v) = (Sum.inr (some (.long v)) : Ou) from rfl] at hM
  refine x_callVl (As := [.int a1]) (rest := [.int (0 : Int32), .ref (G.2.1 + 91)]) C hR hM (by decide) (by decide) ob0 rfl wL_64 rfl rfl (Nat.le_of_ble_eq_true rfl) hl.1 ⟨Nat.zero_le _, Nat.zero_le _⟩ (dk DL_here 4 rfl) (fun H locs hR => ?_)
  refine r_last C hR ob91 rfl (dk DL_here 5 rfl) (fun H locs hR => ?_)
  refine lv_goto (tgt := 17) hx hb (dk DL_here 6 rfl) (by decide) ?_
  refine lv_iconst (v := (0 : Int32)) hx hb (dk DL_here 13 rfl) (by decide) ?_
  exact w_ret C hrt hR rfl rfl (dk DL_here 14 rfl)
set_option maxRecDepth 20000 in
theorem W_here_0 (l : Launch) (hl0 : l.stackTraces = false) (G : GG) (a1 : Int32) (m0 : Mem) (m1 : Mem) (hF : F_T_here a1 m0 = some (.inl 0, m1)) : Wt l G yL_here cL_here 4 [(0, 8, 11, 47), (0, 8, 14, 34)] 289 [.ref (G.2.1 + 0), .int a1, .ref (G.2.1 + 91)] m0 (.inl 0) 1 m1 := by
  refine Wt_of hl0 (by decide) (Nat.le_of_ble_eq_true rfl) ?_
  intro p e s mid args below meth c ls C hN hrt htab hl hR
  have hx := C.1.1
  have hb := C.1.2.1
  have hl : lv_has ls 4 [(0, .ref (G.2.1 + 0)), (1, .int a1), (2, .ref (G.2.1 + 91))] := hl
  refine lv_aload_n hx hb (dk DL_here 0 rfl) rfl (lv_at hl 2 rfl) ?_
  refine lv_iconst (v := (0 : Int32)) hx hb (dk DL_here 1 rfl) (by decide) ?_
  refine lv_aload_n hx hb (dk DL_here 2 rfl) rfl (lv_at hl 0 rfl) ?_
  refine lv_iload_n hx hb (dk DL_here 3 rfl) rfl (lv_at hl 1 rfl) ?_
  have hM := C_T_here l hl0 G a1 m0 (Sum.inl 0) m1 hF
  rw [show ouL (Sum.inl 0) = (Sum.inl 0 : Ou) from rfl] at hM
  refine x_thr hR (x_runV (As := [.int a1]) (rest := [.int (0 : Int32), .ref (G.2.1 + 91)]) C hR hM (by decide) (by decide) ob0 rfl wL_64 rfl rfl (Nat.le_of_ble_eq_true rfl) hl.1 ⟨Nat.le_refl 1, Nat.le_refl 6⟩ (dk DL_here 4 rfl)) (fun H locs ce q hR h3 h4 h5 => ?_)
  refine w_catch (pre := []) (suf := [(0, 8, 14, 34)]) (a := 0) (b := 8) (h := 11) (ct := 47) (k := 0) C hN htab rfl (by decide) (fun z hz => nomatch hz) rfl (by decide) (gd q1234 rfl) h3 h4 h5 ?_
  refine lv_astore_n (lv' := [(3, .ref q), (0, .ref (G.2.1 + 0)), (1, .int a1), (2, .ref (G.2.1 + 91))]) hx hb (dk DL_here 7 rfl) rfl hl (by decide) rfl (fun ls hl => ?_)
  refine lv_iconst (v := (1 : Int32)) hx hb (dk DL_here 8 rfl) (by decide) ?_
  exact w_ret C hrt hR rfl rfl (dk DL_here 9 rfl)
set_option maxRecDepth 20000 in
theorem W_here_4 (l : Launch) (hl0 : l.stackTraces = false) (G : GG) (a1 : Int32) (m0 : Mem) (m1 : Mem) (hF : F_T_here a1 m0 = some (.inl 4, m1)) : Wt l G yL_here cL_here 4 [(0, 8, 11, 47), (0, 8, 14, 34)] 289 [.ref (G.2.1 + 0), .int a1, .ref (G.2.1 + 91)] m0 (.inl 4) 2 m1 := by
  refine Wt_of hl0 (by decide) (Nat.le_of_ble_eq_true rfl) ?_
  intro p e s mid args below meth c ls C hN hrt htab hl hR
  have hx := C.1.1
  have hb := C.1.2.1
  have hl : lv_has ls 4 [(0, .ref (G.2.1 + 0)), (1, .int a1), (2, .ref (G.2.1 + 91))] := hl
  refine lv_aload_n hx hb (dk DL_here 0 rfl) rfl (lv_at hl 2 rfl) ?_
  refine lv_iconst (v := (0 : Int32)) hx hb (dk DL_here 1 rfl) (by decide) ?_
  refine lv_aload_n hx hb (dk DL_here 2 rfl) rfl (lv_at hl 0 rfl) ?_
  refine lv_iload_n hx hb (dk DL_here 3 rfl) rfl (lv_at hl 1 rfl) ?_
  have hM := C_T_here l hl0 G a1 m0 (Sum.inl 4) m1 hF
  rw [show ouL (Sum.inl 4) = (Sum.inl 4 : Ou) from rfl] at hM
  refine x_thr hR (x_runV (As := [.int a1]) (rest := [.int (0 : Int32), .ref (G.2.1 + 91)]) C hR hM (by decide) (by decide) ob0 rfl wL_64 rfl rfl (Nat.le_of_ble_eq_true rfl) hl.1 ⟨Nat.le_refl 1, Nat.le_refl 6⟩ (dk DL_here 4 rfl)) (fun H locs ce q hR h3 h4 h5 => ?_)
  refine w_catch (pre := [(0, 8, 11, 47)]) (suf := []) (a := 0) (b := 8) (h := 14) (ct := 34) (k := 4) C hN htab rfl (by decide) (List.forall_mem_cons.mpr ⟨⟨by decide, 0, by decide, by decide, (gd q1234 rfl)⟩, (fun z hz => nomatch hz)⟩) rfl (by decide) (gd q1165 rfl) h3 h4 h5 ?_
  refine lv_astore_n (lv' := [(3, .ref q), (0, .ref (G.2.1 + 0)), (1, .int a1), (2, .ref (G.2.1 + 91))]) hx hb (dk DL_here 10 rfl) rfl hl (by decide) rfl (fun ls hl => ?_)
  refine lv_iconst (v := (2 : Int32)) hx hb (dk DL_here 11 rfl) (by decide) ?_
  exact w_ret C hrt hR rfl rfl (dk DL_here 12 rfl)
set_option maxRecDepth 20000 in
theorem W_worth_n (l : Launch) (hl0 : l.stackTraces = false) (G : GG) (a1 : Int32) (a2 : Int32) (m0 : Mem) (v : Int64) (m1 : Mem) (hF : F_T_worth a1 a2 m0 = some (.inr v, m1)) : Wt l G yL_worth cL_worth 5 [(0, 9, 12, 24), (0, 9, 16, 34)] 290 [.ref (G.2.1 + 0), .int a1, .int a2, .ref (G.2.1 + 91)] m0 (.inr none) 0 (sL m1 91 0 v) := by
  refine Wt_of hl0 (by decide) (Nat.le_of_ble_eq_true rfl) ?_
  intro p e s mid args below meth c ls C hN hrt htab hl hR
  have hx := C.1.1
  have hb := C.1.2.1
  have hl : lv_has ls 5 [(0, .ref (G.2.1 + 0)), (1, .int a1), (2, .int a2), (3, .ref (G.2.1 + 91))] := hl
  refine lv_aload_n hx hb (dk DL_worth 0 rfl) rfl (lv_at hl 3 rfl) ?_
  refine lv_iconst (v := (0 : Int32)) hx hb (dk DL_worth 1 rfl) (by decide) ?_
  refine lv_aload_n hx hb (dk DL_worth 2 rfl) rfl (lv_at hl 0 rfl) ?_
  refine lv_iload_n hx hb (dk DL_worth 3 rfl) rfl (lv_at hl 1 rfl) ?_
  refine lv_iload_n hx hb (dk DL_worth 4 rfl) rfl (lv_at hl 2 rfl) ?_
  have hM := C_T_worth l hl0 G a1 a2 m0 (Sum.inr v) m1 hF
  rw [show ouL (Sum.inr v) = (Sum.inr (some (.long v)) : Ou) from rfl] at hM
  refine x_callVl (As := [.int a1, .int a2]) (rest := [.int (0 : Int32), .ref (G.2.1 + 91)]) C hR hM (by decide) (by decide) ob0 rfl wL_68 rfl rfl (Nat.le_of_ble_eq_true rfl) hl.1 ⟨Nat.zero_le _, Nat.zero_le _⟩ (dk DL_worth 5 rfl) (fun H locs hR => ?_)
  refine r_last C hR ob91 rfl (dk DL_worth 6 rfl) (fun H locs hR => ?_)
  refine lv_goto (tgt := 20) hx hb (dk DL_worth 7 rfl) (by decide) ?_
  refine lv_iconst (v := (0 : Int32)) hx hb (dk DL_worth 14 rfl) (by decide) ?_
  exact w_ret C hrt hR rfl rfl (dk DL_worth 15 rfl)
set_option maxRecDepth 20000 in
theorem W_worth_2 (l : Launch) (hl0 : l.stackTraces = false) (G : GG) (a1 : Int32) (a2 : Int32) (m0 : Mem) (m1 : Mem) (hF : F_T_worth a1 a2 m0 = some (.inl 2, m1)) : Wt l G yL_worth cL_worth 5 [(0, 9, 12, 24), (0, 9, 16, 34)] 290 [.ref (G.2.1 + 0), .int a1, .int a2, .ref (G.2.1 + 91)] m0 (.inl 2) 1 m1 := by
  refine Wt_of hl0 (by decide) (Nat.le_of_ble_eq_true rfl) ?_
  intro p e s mid args below meth c ls C hN hrt htab hl hR
  have hx := C.1.1
  have hb := C.1.2.1
  have hl : lv_has ls 5 [(0, .ref (G.2.1 + 0)), (1, .int a1), (2, .int a2), (3, .ref (G.2.1 + 91))] := hl
  refine lv_aload_n hx hb (dk DL_worth 0 rfl) rfl (lv_at hl 3 rfl) ?_
  refine lv_iconst (v := (0 : Int32)) hx hb (dk DL_worth 1 rfl) (by decide) ?_
  refine lv_aload_n hx hb (dk DL_worth 2 rfl) rfl (lv_at hl 0 rfl) ?_
  refine lv_iload_n hx hb (dk DL_worth 3 rfl) rfl (lv_at hl 1 rfl) ?_
  refine lv_iload_n hx hb (dk DL_worth 4 rfl) rfl (lv_at hl 2 rfl) ?_
  have hM := C_T_worth l hl0 G a1 a2 m0 (Sum.inl 2) m1 hF
  rw [show ouL (Sum.inl 2) = (Sum.inl 2 : Ou) from rfl] at hM
  refine x_thr hR (x_runV (As := [.int a1, .int a2]) (rest := [.int (0 : Int32), .ref (G.2.1 + 91)]) C hR hM (by decide) (by decide) ob0 rfl wL_68 rfl rfl (Nat.le_of_ble_eq_true rfl) hl.1 ⟨Nat.le_refl 1, Nat.le_refl 6⟩ (dk DL_worth 5 rfl)) (fun H locs ce q hR h3 h4 h5 => ?_)
  refine w_catch (pre := []) (suf := [(0, 9, 16, 34)]) (a := 0) (b := 9) (h := 12) (ct := 24) (k := 2) C hN htab rfl (by decide) (fun z hz => nomatch hz) rfl (by decide) (gd q1126 rfl) h3 h4 h5 ?_
  refine lv_astore (lv' := [(4, .ref q), (0, .ref (G.2.1 + 0)), (1, .int a1), (2, .int a2), (3, .ref (G.2.1 + 91))]) hx hb (dk DL_worth 8 rfl) hl (by decide) rfl (fun ls hl => ?_)
  refine lv_iconst (v := (1 : Int32)) hx hb (dk DL_worth 9 rfl) (by decide) ?_
  exact w_ret C hrt hR rfl rfl (dk DL_worth 10 rfl)
set_option maxRecDepth 20000 in
theorem W_worth_4 (l : Launch) (hl0 : l.stackTraces = false) (G : GG) (a1 : Int32) (a2 : Int32) (m0 : Mem) (m1 : Mem) (hF : F_T_worth a1 a2 m0 = some (.inl 4, m1)) : Wt l G yL_worth cL_worth 5 [(0, 9, 12, 24), (0, 9, 16, 34)] 290 [.ref (G.2.1 + 0), .int a1, .int a2, .ref (G.2.1 + 91)] m0 (.inl 4) 2 m1 := by
  refine Wt_of hl0 (by decide) (Nat.le_of_ble_eq_true rfl) ?_
  intro p e s mid args below meth c ls C hN hrt htab hl hR
  have hx := C.1.1
  have hb := C.1.2.1
  have hl : lv_has ls 5 [(0, .ref (G.2.1 + 0)), (1, .int a1), (2, .int a2), (3, .ref (G.2.1 + 91))] := hl
  refine lv_aload_n hx hb (dk DL_worth 0 rfl) rfl (lv_at hl 3 rfl) ?_
  refine lv_iconst (v := (0 : Int32)) hx hb (dk DL_worth 1 rfl) (by decide) ?_
  refine lv_aload_n hx hb (dk DL_worth 2 rfl) rfl (lv_at hl 0 rfl) ?_
  refine lv_iload_n hx hb (dk DL_worth 3 rfl) rfl (lv_at hl 1 rfl) ?_
  refine lv_iload_n hx hb (dk DL_worth 4 rfl) rfl (lv_at hl 2 rfl) ?_
  have hM := C_T_worth l hl0 G a1 a2 m0 (Sum.inl 4) m1 hF
  rw [show ouL (Sum.inl 4) = (Sum.inl 4 : Ou) from rfl] at hM
  refine x_thr hR (x_runV (As := [.int a1, .int a2]) (rest := [.int (0 : Int32), .ref (G.2.1 + 91)]) C hR hM (by decide) (by decide) ob0 rfl wL_68 rfl rfl (Nat.le_of_ble_eq_true rfl) hl.1 ⟨Nat.le_refl 1, Nat.le_refl 6⟩ (dk DL_worth 5 rfl)) (fun H locs ce q hR h3 h4 h5 => ?_)
  refine w_catch (pre := [(0, 9, 12, 24)]) (suf := []) (a := 0) (b := 9) (h := 16) (ct := 34) (k := 4) C hN htab rfl (by decide) (List.forall_mem_cons.mpr ⟨⟨by decide, 2, by decide, by decide, (gd q1126 rfl)⟩, (fun z hz => nomatch hz)⟩) rfl (by decide) (gd q1165 rfl) h3 h4 h5 ?_
  refine lv_astore (lv' := [(4, .ref q), (0, .ref (G.2.1 + 0)), (1, .int a1), (2, .int a2), (3, .ref (G.2.1 + 91))]) hx hb (dk DL_worth 11 rfl) hl (by decide) rfl (fun ls hl => ?_)
  refine lv_iconst (v := (2 : Int32)) hx hb (dk DL_worth 12 rfl) (by decide) ?_
  exact w_ret C hrt hR rfl rfl (dk DL_worth 13 rfl)
set_option maxRecDepth 20000 in
theorem W_evens_n (l : Launch) (hl0 : l.stackTraces = false) (G : GG) (a1 : Int32) (m0 : Mem) (v : Int64) (m1 : Mem) (hF : F_T_evens a1 m0 = some (.inr v, m1)) : Wt l G yL_evens cL_evens 4 [(0, 8, 11, 24)] 290 [.ref (G.2.1 + 0), .int a1, .ref (G.2.1 + 91)] m0 (.inr none) 0 (sL m1 91 0 v) := by
  refine Wt_of hl0 (by decide) (Nat.le_of_ble_eq_true rfl) ?_
  intro p e s mid args below meth c ls C hN hrt htab hl hR
  have hx := C.1.1
  have hb := C.1.2.1
  have hl : lv_has ls 4 [(0, .ref (G.2.1 + 0)), (1, .int a1), (2, .ref (G.2.1 + 91))] := hl
  refine lv_aload_n hx hb (dk DL_evens 0 rfl) rfl (lv_at hl 2 rfl) ?_
  refine lv_iconst (v := (0 : Int32)) hx hb (dk DL_evens 1 rfl) (by decide) ?_
  refine lv_aload_n hx hb (dk DL_evens 2 rfl) rfl (lv_at hl 0 rfl) ?_
  refine lv_iload_n hx hb (dk DL_evens 3 rfl) rfl (lv_at hl 1 rfl) ?_
  have hM := C_T_evens l hl0 G a1 m0 (Sum.inr v) m1 hF
  rw [show ouL (Sum.inr v) = (Sum.inr (some (.long v)) : Ou) from rfl] at hM
  refine x_callVl (As := [.int a1]) (rest := [.int (0 : Int32), .ref (G.2.1 + 91)]) C hR hM (by decide) (by decide) ob0 rfl wL_72 rfl rfl (Nat.le_of_ble_eq_true rfl) hl.1 ⟨Nat.zero_le _, Nat.zero_le _⟩ (dk DL_evens 4 rfl) (fun H locs hR => ?_)
  refine r_last C hR ob91 rfl (dk DL_evens 5 rfl) (fun H locs hR => ?_)
  refine lv_goto (tgt := 14) hx hb (dk DL_evens 6 rfl) (by decide) ?_
  refine lv_iconst (v := (0 : Int32)) hx hb (dk DL_evens 10 rfl) (by decide) ?_
  exact w_ret C hrt hR rfl rfl (dk DL_evens 11 rfl)
set_option maxRecDepth 20000 in
theorem W_evens_2 (l : Launch) (hl0 : l.stackTraces = false) (G : GG) (a1 : Int32) (m0 : Mem) (m1 : Mem) (hF : F_T_evens a1 m0 = some (.inl 2, m1)) : Wt l G yL_evens cL_evens 4 [(0, 8, 11, 24)] 290 [.ref (G.2.1 + 0), .int a1, .ref (G.2.1 + 91)] m0 (.inl 2) 1 m1 := by
  refine Wt_of hl0 (by decide) (Nat.le_of_ble_eq_true rfl) ?_
  intro p e s mid args below meth c ls C hN hrt htab hl hR
  have hx := C.1.1
  have hb := C.1.2.1
  have hl : lv_has ls 4 [(0, .ref (G.2.1 + 0)), (1, .int a1), (2, .ref (G.2.1 + 91))] := hl
  refine lv_aload_n hx hb (dk DL_evens 0 rfl) rfl (lv_at hl 2 rfl) ?_
  refine lv_iconst (v := (0 : Int32)) hx hb (dk DL_evens 1 rfl) (by decide) ?_
  refine lv_aload_n hx hb (dk DL_evens 2 rfl) rfl (lv_at hl 0 rfl) ?_
  refine lv_iload_n hx hb (dk DL_evens 3 rfl) rfl (lv_at hl 1 rfl) ?_
  have hM := C_T_evens l hl0 G a1 m0 (Sum.inl 2) m1 hF
  rw [show ouL (Sum.inl 2) = (Sum.inl 2 : Ou) from rfl] at hM
  refine x_thr hR (x_runV (As := [.int a1]) (rest := [.int (0 : Int32), .ref (G.2.1 + 91)]) C hR hM (by decide) (by decide) ob0 rfl wL_72 rfl rfl (Nat.le_of_ble_eq_true rfl) hl.1 ⟨Nat.le_refl 1, Nat.le_refl 6⟩ (dk DL_evens 4 rfl)) (fun H locs ce q hR h3 h4 h5 => ?_)
  refine w_catch (pre := []) (suf := []) (a := 0) (b := 8) (h := 11) (ct := 24) (k := 2) C hN htab rfl (by decide) (fun z hz => nomatch hz) rfl (by decide) (gd q1126 rfl) h3 h4 h5 ?_
  refine lv_astore_n (lv' := [(3, .ref q), (0, .ref (G.2.1 + 0)), (1, .int a1), (2, .ref (G.2.1 + 91))]) hx hb (dk DL_evens 7 rfl) rfl hl (by decide) rfl (fun ls hl => ?_)
  refine lv_iconst (v := (1 : Int32)) hx hb (dk DL_evens 8 rfl) (by decide) ?_
  exact w_ret C hrt hR rfl rfl (dk DL_evens 9 rfl)
set_option maxRecDepth 20000 in
theorem W_after_n (l : Launch) (hl0 : l.stackTraces = false) (G : GG) (a1 : Int32) (a2 : Int32) (m0 : Mem) (v : Int64) (m1 : Mem) (hF : F_T_after a1 a2 m0 = some (.inr v, m1)) : Wt l G yL_after cL_after 5 [(0, 9, 12, 24), (0, 9, 16, 47), (0, 9, 20, 34)] 292 [.ref (G.2.1 + 0), .int a1, .int a2, .ref (G.2.1 + 91)] m0 (.inr none) 0 (sL m1 91 0 v) := by
  refine Wt_of hl0 (by decide) (Nat.le_of_ble_eq_true rfl) ?_
  intro p e s mid args below meth c ls C hN hrt htab hl hR
  have hx := C.1.1
  have hb := C.1.2.1
  have hl : lv_has ls 5 [(0, .ref (G.2.1 + 0)), (1, .int a1), (2, .int a2), (3, .ref (G.2.1 + 91))] := hl
  refine lv_aload_n hx hb (dk DL_after 0 rfl) rfl (lv_at hl 3 rfl) ?_
  refine lv_iconst (v := (0 : Int32)) hx hb (dk DL_after 1 rfl) (by decide) ?_
  refine lv_aload_n hx hb (dk DL_after 2 rfl) rfl (lv_at hl 0 rfl) ?_
  refine lv_iload_n hx hb (dk DL_after 3 rfl) rfl (lv_at hl 1 rfl) ?_
  refine lv_iload_n hx hb (dk DL_after 4 rfl) rfl (lv_at hl 2 rfl) ?_
  have hM := C_T_after l hl0 G a1 a2 m0 (Sum.inr v) m1 hF
  rw [show ouL (Sum.inr v) = (Sum.inr (some (.long v)) : Ou) from rfl] at hM
  refine x_callVl (As := [.int a1, .int a2]) (rest := [.int (0 : Int32), .ref (G.2.1 + 91)]) C hR hM (by decide) (by decide) ob0 rfl wL_75 rfl rfl (Nat.le_of_ble_eq_true rfl) hl.1 ⟨Nat.zero_le _, Nat.zero_le _⟩ (dk DL_after 5 rfl) (fun H locs hR => ?_)
  refine r_last C hR ob91 rfl (dk DL_after 6 rfl) (fun H locs hR => ?_)
  refine lv_goto (tgt := 24) hx hb (dk DL_after 7 rfl) (by decide) ?_
  refine lv_iconst (v := (0 : Int32)) hx hb (dk DL_after 17 rfl) (by decide) ?_
  exact w_ret C hrt hR rfl rfl (dk DL_after 18 rfl)
set_option maxRecDepth 20000 in
theorem W_after_2 (l : Launch) (hl0 : l.stackTraces = false) (G : GG) (a1 : Int32) (a2 : Int32) (m0 : Mem) (m1 : Mem) (hF : F_T_after a1 a2 m0 = some (.inl 2, m1)) : Wt l G yL_after cL_after 5 [(0, 9, 12, 24), (0, 9, 16, 47), (0, 9, 20, 34)] 292 [.ref (G.2.1 + 0), .int a1, .int a2, .ref (G.2.1 + 91)] m0 (.inl 2) 1 m1 := by
  refine Wt_of hl0 (by decide) (Nat.le_of_ble_eq_true rfl) ?_
  intro p e s mid args below meth c ls C hN hrt htab hl hR
  have hx := C.1.1
  have hb := C.1.2.1
  have hl : lv_has ls 5 [(0, .ref (G.2.1 + 0)), (1, .int a1), (2, .int a2), (3, .ref (G.2.1 + 91))] := hl
  refine lv_aload_n hx hb (dk DL_after 0 rfl) rfl (lv_at hl 3 rfl) ?_
  refine lv_iconst (v := (0 : Int32)) hx hb (dk DL_after 1 rfl) (by decide) ?_
  refine lv_aload_n hx hb (dk DL_after 2 rfl) rfl (lv_at hl 0 rfl) ?_
  refine lv_iload_n hx hb (dk DL_after 3 rfl) rfl (lv_at hl 1 rfl) ?_
  refine lv_iload_n hx hb (dk DL_after 4 rfl) rfl (lv_at hl 2 rfl) ?_
  have hM := C_T_after l hl0 G a1 a2 m0 (Sum.inl 2) m1 hF
  rw [show ouL (Sum.inl 2) = (Sum.inl 2 : Ou) from rfl] at hM
  refine x_thr hR (x_runV (As := [.int a1, .int a2]) (rest := [.int (0 : Int32), .ref (G.2.1 + 91)]) C hR hM (by decide) (by decide) ob0 rfl wL_75 rfl rfl (Nat.le_of_ble_eq_true rfl) hl.1 ⟨Nat.le_refl 1, Nat.le_refl 6⟩ (dk DL_after 5 rfl)) (fun H locs ce q hR h3 h4 h5 => ?_)
  refine w_catch (pre := []) (suf := [(0, 9, 16, 47), (0, 9, 20, 34)]) (a := 0) (b := 9) (h := 12) (ct := 24) (k := 2) C hN htab rfl (by decide) (fun z hz => nomatch hz) rfl (by decide) (gd q1126 rfl) h3 h4 h5 ?_
  refine lv_astore (lv' := [(4, .ref q), (0, .ref (G.2.1 + 0)), (1, .int a1), (2, .int a2), (3, .ref (G.2.1 + 91))]) hx hb (dk DL_after 8 rfl) hl (by decide) rfl (fun ls hl => ?_)
  refine lv_iconst (v := (1 : Int32)) hx hb (dk DL_after 9 rfl) (by decide) ?_
  exact w_ret C hrt hR rfl rfl (dk DL_after 10 rfl)
set_option maxRecDepth 20000 in
theorem W_after_0 (l : Launch) (hl0 : l.stackTraces = false) (G : GG) (a1 : Int32) (a2 : Int32) (m0 : Mem) (m1 : Mem) (hF : F_T_after a1 a2 m0 = some (.inl 0, m1)) : Wt l G yL_after cL_after 5 [(0, 9, 12, 24), (0, 9, 16, 47), (0, 9, 20, 34)] 292 [.ref (G.2.1 + 0), .int a1, .int a2, .ref (G.2.1 + 91)] m0 (.inl 0) 2 m1 := by
  refine Wt_of hl0 (by decide) (Nat.le_of_ble_eq_true rfl) ?_
  intro p e s mid args below meth c ls C hN hrt htab hl hR
  have hx := C.1.1
  have hb := C.1.2.1
  have hl : lv_has ls 5 [(0, .ref (G.2.1 + 0)), (1, .int a1), (2, .int a2), (3, .ref (G.2.1 + 91))] := hl
  refine lv_aload_n hx hb (dk DL_after 0 rfl) rfl (lv_at hl 3 rfl) ?_
  refine lv_iconst (v := (0 : Int32)) hx hb (dk DL_after 1 rfl) (by decide) ?_
  refine lv_aload_n hx hb (dk DL_after 2 rfl) rfl (lv_at hl 0 rfl) ?_
  refine lv_iload_n hx hb (dk DL_after 3 rfl) rfl (lv_at hl 1 rfl) ?_
  refine lv_iload_n hx hb (dk DL_after 4 rfl) rfl (lv_at hl 2 rfl) ?_
  have hM := C_T_after l hl0 G a1 a2 m0 (Sum.inl 0) m1 hF
  rw [show ouL (Sum.inl 0) = (Sum.inl 0 : Ou) from rfl] at hM
  refine x_thr hR (x_runV (As := [.int a1, .int a2]) (rest := [.int (0 : Int32), .ref (G.2.1 + 91)]) C hR hM (by decide) (by decide) ob0 rfl wL_75 rfl rfl (Nat.le_of_ble_eq_true rfl) hl.1 ⟨Nat.le_refl 1, Nat.le_refl 6⟩ (dk DL_after 5 rfl)) (fun H locs ce q hR h3 h4 h5 => ?_)
  refine w_catch (pre := [(0, 9, 12, 24)]) (suf := [(0, 9, 20, 34)]) (a := 0) (b := 9) (h := 16) (ct := 47) (k := 0) C hN htab rfl (by decide) (List.forall_mem_cons.mpr ⟨⟨by decide, 2, by decide, by decide, (gd q1126 rfl)⟩, (fun z hz => nomatch hz)⟩) rfl (by decide) (gd q1234 rfl) h3 h4 h5 ?_
  refine lv_astore (lv' := [(4, .ref q), (0, .ref (G.2.1 + 0)), (1, .int a1), (2, .int a2), (3, .ref (G.2.1 + 91))]) hx hb (dk DL_after 11 rfl) hl (by decide) rfl (fun ls hl => ?_)
  refine lv_iconst (v := (2 : Int32)) hx hb (dk DL_after 12 rfl) (by decide) ?_
  exact w_ret C hrt hR rfl rfl (dk DL_after 13 rfl)
set_option maxRecDepth 20000 in
theorem W_after_4 (l : Launch) (hl0 : l.stackTraces = false) (G : GG) (a1 : Int32) (a2 : Int32) (m0 : Mem) (m1 : Mem) (hF : F_T_after a1 a2 m0 = some (.inl 4, m1)) : Wt l G yL_after cL_after 5 [(0, 9, 12, 24), (0, 9, 16, 47), (0, 9, 20, 34)] 292 [.ref (G.2.1 + 0), .int a1, .int a2, .ref (G.2.1 + 91)] m0 (.inl 4) 3 m1 := by
  refine Wt_of hl0 (by decide) (Nat.le_of_ble_eq_true rfl) ?_
  intro p e s mid args below meth c ls C hN hrt htab hl hR
  have hx := C.1.1
  have hb := C.1.2.1
  have hl : lv_has ls 5 [(0, .ref (G.2.1 + 0)), (1, .int a1), (2, .int a2), (3, .ref (G.2.1 + 91))] := hl
  refine lv_aload_n hx hb (dk DL_after 0 rfl) rfl (lv_at hl 3 rfl) ?_
  refine lv_iconst (v := (0 : Int32)) hx hb (dk DL_after 1 rfl) (by decide) ?_
  refine lv_aload_n hx hb (dk DL_after 2 rfl) rfl (lv_at hl 0 rfl) ?_
  refine lv_iload_n hx hb (dk DL_after 3 rfl) rfl (lv_at hl 1 rfl) ?_
  refine lv_iload_n hx hb (dk DL_after 4 rfl) rfl (lv_at hl 2 rfl) ?_
  have hM := C_T_after l hl0 G a1 a2 m0 (Sum.inl 4) m1 hF
  rw [show ouL (Sum.inl 4) = (Sum.inl 4 : Ou) from rfl] at hM
  refine x_thr hR (x_runV (As := [.int a1, .int a2]) (rest := [.int (0 : Int32), .ref (G.2.1 + 91)]) C hR hM (by decide) (by decide) ob0 rfl wL_75 rfl rfl (Nat.le_of_ble_eq_true rfl) hl.1 ⟨Nat.le_refl 1, Nat.le_refl 6⟩ (dk DL_after 5 rfl)) (fun H locs ce q hR h3 h4 h5 => ?_)
  refine w_catch (pre := [(0, 9, 12, 24), (0, 9, 16, 47)]) (suf := []) (a := 0) (b := 9) (h := 20) (ct := 34) (k := 4) C hN htab rfl (by decide) (List.forall_mem_cons.mpr ⟨⟨by decide, 2, by decide, by decide, (gd q1126 rfl)⟩, (List.forall_mem_cons.mpr ⟨⟨by decide, 0, by decide, by decide, (gd q1234 rfl)⟩, (fun z hz => nomatch hz)⟩)⟩) rfl (by decide) (gd q1165 rfl) h3 h4 h5 ?_
  refine lv_astore (lv' := [(4, .ref q), (0, .ref (G.2.1 + 0)), (1, .int a1), (2, .int a2), (3, .ref (G.2.1 + 91))]) hx hb (dk DL_after 14 rfl) hl (by decide) rfl (fun ls hl => ?_)
  refine lv_iconst (v := (3 : Int32)) hx hb (dk DL_after 15 rfl) (by decide) ?_
  exact w_ret C hrt hR rfl rfl (dk DL_after 16 rfl)
set_option maxRecDepth 20000 in
theorem W_turning_n (l : Launch) (hl0 : l.stackTraces = false) (G : GG) (a1 : Bool) (m0 : Mem) (v : Int32) (m1 : Mem) (hF : F_T_turning a1 m0 = some (.inr v, m1)) : Wt l G yL_turning cL_turning 4 [(0, 9, 12, 47)] 292 [.ref (G.2.1 + 0), .int (b2i a1), .ref (G.2.1 + 91)] m0 (.inr none) 0 (sL m1 91 0 v.toInt64) := by
  refine Wt_of hl0 (by decide) (Nat.le_of_ble_eq_true rfl) ?_
  intro p e s mid args below meth c ls C hN hrt htab hl hR
  have hx := C.1.1
  have hb := C.1.2.1
  have hl : lv_has ls 4 [(0, .ref (G.2.1 + 0)), (1, .int (b2i a1)), (2, .ref (G.2.1 + 91))] := hl
  refine lv_aload_n hx hb (dk DL_turning 0 rfl) rfl (lv_at hl 2 rfl) ?_
  refine lv_iconst (v := (0 : Int32)) hx hb (dk DL_turning 1 rfl) (by decide) ?_
  refine lv_aload_n hx hb (dk DL_turning 2 rfl) rfl (lv_at hl 0 rfl) ?_
  refine lv_iload_n hx hb (dk DL_turning 3 rfl) rfl (lv_at hl 1 rfl) ?_
  have hM := C_T_turning l hl0 G a1 m0 (Sum.inr v) m1 hF
  rw [show ouI (Sum.inr v) = (Sum.inr (some (.int v)) : Ou) from rfl] at hM
  refine x_callVi (As := [.int (b2i a1)]) (rest := [.int (0 : Int32), .ref (G.2.1 + 91)]) C hR hM (by decide) (by decide) ob0 rfl wL_78 rfl rfl (Nat.le_of_ble_eq_true rfl) hl.1 ⟨Nat.zero_le _, Nat.zero_le _⟩ (dk DL_turning 4 rfl) (fun H locs hR => ?_)
  refine lv_i2l hx hb (dk DL_turning 5 rfl) rfl ?_
  refine r_last C hR ob91 rfl (dk DL_turning 6 rfl) (fun H locs hR => ?_)
  refine lv_goto (tgt := 15) hx hb (dk DL_turning 7 rfl) (by decide) ?_
  refine lv_iconst (v := (0 : Int32)) hx hb (dk DL_turning 11 rfl) (by decide) ?_
  exact w_ret C hrt hR rfl rfl (dk DL_turning 12 rfl)
set_option maxRecDepth 20000 in
theorem W_turning_0 (l : Launch) (hl0 : l.stackTraces = false) (G : GG) (a1 : Bool) (m0 : Mem) (m1 : Mem) (hF : F_T_turning a1 m0 = some (.inl 0, m1)) : Wt l G yL_turning cL_turning 4 [(0, 9, 12, 47)] 292 [.ref (G.2.1 + 0), .int (b2i a1), .ref (G.2.1 + 91)] m0 (.inl 0) 1 m1 := by
  refine Wt_of hl0 (by decide) (Nat.le_of_ble_eq_true rfl) ?_
  intro p e s mid args below meth c ls C hN hrt htab hl hR
  have hx := C.1.1
  have hb := C.1.2.1
  have hl : lv_has ls 4 [(0, .ref (G.2.1 + 0)), (1, .int (b2i a1)), (2, .ref (G.2.1 + 91))] := hl
  refine lv_aload_n hx hb (dk DL_turning 0 rfl) rfl (lv_at hl 2 rfl) ?_
  refine lv_iconst (v := (0 : Int32)) hx hb (dk DL_turning 1 rfl) (by decide) ?_
  refine lv_aload_n hx hb (dk DL_turning 2 rfl) rfl (lv_at hl 0 rfl) ?_
  refine lv_iload_n hx hb (dk DL_turning 3 rfl) rfl (lv_at hl 1 rfl) ?_
  have hM := C_T_turning l hl0 G a1 m0 (Sum.inl 0) m1 hF
  rw [show ouI (Sum.inl 0) = (Sum.inl 0 : Ou) from rfl] at hM
  refine x_thr hR (x_runV (As := [.int (b2i a1)]) (rest := [.int (0 : Int32), .ref (G.2.1 + 91)]) C hR hM (by decide) (by decide) ob0 rfl wL_78 rfl rfl (Nat.le_of_ble_eq_true rfl) hl.1 ⟨Nat.le_refl 1, Nat.le_refl 6⟩ (dk DL_turning 4 rfl)) (fun H locs ce q hR h3 h4 h5 => ?_)
  refine w_catch (pre := []) (suf := []) (a := 0) (b := 9) (h := 12) (ct := 47) (k := 0) C hN htab rfl (by decide) (fun z hz => nomatch hz) rfl (by decide) (gd q1234 rfl) h3 h4 h5 ?_
  refine lv_astore_n (lv' := [(3, .ref q), (0, .ref (G.2.1 + 0)), (1, .int (b2i a1)), (2, .ref (G.2.1 + 91))]) hx hb (dk DL_turning 8 rfl) rfl hl (by decide) rfl (fun ls hl => ?_)
  refine lv_iconst (v := (1 : Int32)) hx hb (dk DL_turning 9 rfl) (by decide) ?_
  exact w_ret C hrt hR rfl rfl (dk DL_turning 10 rfl)
set_option maxRecDepth 20000 in
theorem W_wins_n (l : Launch) (hl0 : l.stackTraces = false) (G : GG) (a1 : Int32) (a2 : Int32) (a3 : Bool) (a4 : Int32) (a5 : Int32) (a6 : Int32) (m0 : Mem) (v : Int64) (m1 : Mem) (hF : F_T_wins a1 a2 a3 a4 a5 a6 m0 = some (.inr v, m1)) : Wt l G yL_wins cL_wins 9 [(0, 17, 20, 24), (0, 17, 24, 13), (0, 17, 28, 34)] 289 [.ref (G.2.1 + 0), .int a1, .int a2, .int (b2i a3), .int a4, .int a5, .int a6, .ref (G.2.1 + 91)] m0 (.inr none) 0 (sL m1 91 0 v) := by
  refine Wt_of hl0 (by decide) (Nat.le_of_ble_eq_true rfl) ?_
  intro p e s mid args below meth c ls C hN hrt htab hl hR
  have hx := C.1.1
  have hb := C.1.2.1
  have hl : lv_has ls 9 [(0, .ref (G.2.1 + 0)), (1, .int a1), (2, .int a2), (3, .int (b2i a3)), (4, .int a4), (5, .int a5), (6, .int a6), (7, .ref (G.2.1 + 91))] := hl
  refine lv_aload hx hb (dk DL_wins 0 rfl) (lv_at hl 7 rfl) ?_
  refine lv_iconst (v := (0 : Int32)) hx hb (dk DL_wins 1 rfl) (by decide) ?_
  refine lv_aload_n hx hb (dk DL_wins 2 rfl) rfl (lv_at hl 0 rfl) ?_
  refine lv_iload_n hx hb (dk DL_wins 3 rfl) rfl (lv_at hl 1 rfl) ?_
  refine lv_iload_n hx hb (dk DL_wins 4 rfl) rfl (lv_at hl 2 rfl) ?_
  refine lv_iload_n hx hb (dk DL_wins 5 rfl) rfl (lv_at hl 3 rfl) ?_
  refine lv_iload hx hb (dk DL_wins 6 rfl) (lv_at hl 4 rfl) ?_
  refine lv_iload hx hb (dk DL_wins 7 rfl) (lv_at hl 5 rfl) ?_
  refine lv_iload hx hb (dk DL_wins 8 rfl) (lv_at hl 6 rfl) ?_
  have hM := C_T_wins l hl0 G a1 a2 a3 a4 a5 a6 m0 (Sum.inr v) m1 hF
  rw [show ouL (Sum.inr v) = (Sum.inr (some (.long v)) : Ou) from rfl] at hM
  refine x_callVl (As := [.int a1, .int a2, .int (b2i a3), .int a4, .int a5, .int a6]) (rest := [.int (0 : Int32), .ref (G.2.1 + 91)]) C hR hM (by decide) (by decide) ob0 rfl wL_82 rfl rfl (Nat.le_of_ble_eq_true rfl) hl.1 ⟨Nat.zero_le _, Nat.zero_le _⟩ (dk DL_wins 9 rfl) (fun H locs hR => ?_)
  refine r_last C hR ob91 rfl (dk DL_wins 10 rfl) (fun H locs hR => ?_)
  refine lv_goto (tgt := 32) hx hb (dk DL_wins 11 rfl) (by decide) ?_
  refine lv_iconst (v := (0 : Int32)) hx hb (dk DL_wins 21 rfl) (by decide) ?_
  exact w_ret C hrt hR rfl rfl (dk DL_wins 22 rfl)
set_option maxRecDepth 20000 in
theorem W_wins_2 (l : Launch) (hl0 : l.stackTraces = false) (G : GG) (a1 : Int32) (a2 : Int32) (a3 : Bool) (a4 : Int32) (a5 : Int32) (a6 : Int32) (m0 : Mem) (m1 : Mem) (hF : F_T_wins a1 a2 a3 a4 a5 a6 m0 = some (.inl 2, m1)) : Wt l G yL_wins cL_wins 9 [(0, 17, 20, 24), (0, 17, 24, 13), (0, 17, 28, 34)] 289 [.ref (G.2.1 + 0), .int a1, .int a2, .int (b2i a3), .int a4, .int a5, .int a6, .ref (G.2.1 + 91)] m0 (.inl 2) 1 m1 := by
  refine Wt_of hl0 (by decide) (Nat.le_of_ble_eq_true rfl) ?_
  intro p e s mid args below meth c ls C hN hrt htab hl hR
  have hx := C.1.1
  have hb := C.1.2.1
  have hl : lv_has ls 9 [(0, .ref (G.2.1 + 0)), (1, .int a1), (2, .int a2), (3, .int (b2i a3)), (4, .int a4), (5, .int a5), (6, .int a6), (7, .ref (G.2.1 + 91))] := hl
  refine lv_aload hx hb (dk DL_wins 0 rfl) (lv_at hl 7 rfl) ?_
  refine lv_iconst (v := (0 : Int32)) hx hb (dk DL_wins 1 rfl) (by decide) ?_
  refine lv_aload_n hx hb (dk DL_wins 2 rfl) rfl (lv_at hl 0 rfl) ?_
  refine lv_iload_n hx hb (dk DL_wins 3 rfl) rfl (lv_at hl 1 rfl) ?_
  refine lv_iload_n hx hb (dk DL_wins 4 rfl) rfl (lv_at hl 2 rfl) ?_
  refine lv_iload_n hx hb (dk DL_wins 5 rfl) rfl (lv_at hl 3 rfl) ?_
  refine lv_iload hx hb (dk DL_wins 6 rfl) (lv_at hl 4 rfl) ?_
  refine lv_iload hx hb (dk DL_wins 7 rfl) (lv_at hl 5 rfl) ?_
  refine lv_iload hx hb (dk DL_wins 8 rfl) (lv_at hl 6 rfl) ?_
  have hM := C_T_wins l hl0 G a1 a2 a3 a4 a5 a6 m0 (Sum.inl 2) m1 hF
  rw [show ouL (Sum.inl 2) = (Sum.inl 2 : Ou) from rfl] at hM
  refine x_thr hR (x_runV (As := [.int a1, .int a2, .int (b2i a3), .int a4, .int a5, .int a6]) (rest := [.int (0 : Int32), .ref (G.2.1 + 91)]) C hR hM (by decide) (by decide) ob0 rfl wL_82 rfl rfl (Nat.le_of_ble_eq_true rfl) hl.1 ⟨Nat.le_refl 1, Nat.le_refl 6⟩ (dk DL_wins 9 rfl)) (fun H locs ce q hR h3 h4 h5 => ?_)
  refine w_catch (pre := []) (suf := [(0, 17, 24, 13), (0, 17, 28, 34)]) (a := 0) (b := 17) (h := 20) (ct := 24) (k := 2) C hN htab rfl (by decide) (fun z hz => nomatch hz) rfl (by decide) (gd q1126 rfl) h3 h4 h5 ?_
  refine lv_astore (lv' := [(8, .ref q), (0, .ref (G.2.1 + 0)), (1, .int a1), (2, .int a2), (3, .int (b2i a3)), (4, .int a4), (5, .int a5), (6, .int a6), (7, .ref (G.2.1 + 91))]) hx hb (dk DL_wins 12 rfl) hl (by decide) rfl (fun ls hl => ?_)
  refine lv_iconst (v := (1 : Int32)) hx hb (dk DL_wins 13 rfl) (by decide) ?_
  exact w_ret C hrt hR rfl rfl (dk DL_wins 14 rfl)
set_option maxRecDepth 20000 in
theorem W_wins_1 (l : Launch) (hl0 : l.stackTraces = false) (G : GG) (a1 : Int32) (a2 : Int32) (a3 : Bool) (a4 : Int32) (a5 : Int32) (a6 : Int32) (m0 : Mem) (m1 : Mem) (hF : F_T_wins a1 a2 a3 a4 a5 a6 m0 = some (.inl 1, m1)) : Wt l G yL_wins cL_wins 9 [(0, 17, 20, 24), (0, 17, 24, 13), (0, 17, 28, 34)] 289 [.ref (G.2.1 + 0), .int a1, .int a2, .int (b2i a3), .int a4, .int a5, .int a6, .ref (G.2.1 + 91)] m0 (.inl 1) 2 m1 := by
  refine Wt_of hl0 (by decide) (Nat.le_of_ble_eq_true rfl) ?_
  intro p e s mid args below meth c ls C hN hrt htab hl hR
  have hx := C.1.1
  have hb := C.1.2.1
  have hl : lv_has ls 9 [(0, .ref (G.2.1 + 0)), (1, .int a1), (2, .int a2), (3, .int (b2i a3)), (4, .int a4), (5, .int a5), (6, .int a6), (7, .ref (G.2.1 + 91))] := hl
  refine lv_aload hx hb (dk DL_wins 0 rfl) (lv_at hl 7 rfl) ?_
  refine lv_iconst (v := (0 : Int32)) hx hb (dk DL_wins 1 rfl) (by decide) ?_
  refine lv_aload_n hx hb (dk DL_wins 2 rfl) rfl (lv_at hl 0 rfl) ?_
  refine lv_iload_n hx hb (dk DL_wins 3 rfl) rfl (lv_at hl 1 rfl) ?_
  refine lv_iload_n hx hb (dk DL_wins 4 rfl) rfl (lv_at hl 2 rfl) ?_
  refine lv_iload_n hx hb (dk DL_wins 5 rfl) rfl (lv_at hl 3 rfl) ?_
  refine lv_iload hx hb (dk DL_wins 6 rfl) (lv_at hl 4 rfl) ?_
  refine lv_iload hx hb (dk DL_wins 7 rfl) (lv_at hl 5 rfl) ?_
  refine lv_iload hx hb (dk DL_wins 8 rfl) (lv_at hl 6 rfl) ?_
  have hM := C_T_wins l hl0 G a1 a2 a3 a4 a5 a6 m0 (Sum.inl 1) m1 hF
  rw [show ouL (Sum.inl 1) = (Sum.inl 1 : Ou) from rfl] at hM
  refine x_thr hR (x_runV (As := [.int a1, .int a2, .int (b2i a3), .int a4, .int a5, .int a6]) (rest := [.int (0 : Int32), .ref (G.2.1 + 91)]) C hR hM (by decide) (by decide) ob0 rfl wL_82 rfl rfl (Nat.le_of_ble_eq_true rfl) hl.1 ⟨Nat.le_refl 1, Nat.le_refl 6⟩ (dk DL_wins 9 rfl)) (fun H locs ce q hR h3 h4 h5 => ?_)
  refine w_catch (pre := [(0, 17, 20, 24)]) (suf := [(0, 17, 28, 34)]) (a := 0) (b := 17) (h := 24) (ct := 13) (k := 1) C hN htab rfl (by decide) (List.forall_mem_cons.mpr ⟨⟨by decide, 2, by decide, by decide, (gd q1126 rfl)⟩, (fun z hz => nomatch hz)⟩) rfl (by decide) (gd q781 rfl) h3 h4 h5 ?_
  refine lv_astore (lv' := [(8, .ref q), (0, .ref (G.2.1 + 0)), (1, .int a1), (2, .int a2), (3, .int (b2i a3)), (4, .int a4), (5, .int a5), (6, .int a6), (7, .ref (G.2.1 + 91))]) hx hb (dk DL_wins 15 rfl) hl (by decide) rfl (fun ls hl => ?_)
  refine lv_iconst (v := (2 : Int32)) hx hb (dk DL_wins 16 rfl) (by decide) ?_
  exact w_ret C hrt hR rfl rfl (dk DL_wins 17 rfl)
set_option maxRecDepth 20000 in
theorem W_wins_4 (l : Launch) (hl0 : l.stackTraces = false) (G : GG) (a1 : Int32) (a2 : Int32) (a3 : Bool) (a4 : Int32) (a5 : Int32) (a6 : Int32) (m0 : Mem) (m1 : Mem) (hF : F_T_wins a1 a2 a3 a4 a5 a6 m0 = some (.inl 4, m1)) : Wt l G yL_wins cL_wins 9 [(0, 17, 20, 24), (0, 17, 24, 13), (0, 17, 28, 34)] 289 [.ref (G.2.1 + 0), .int a1, .int a2, .int (b2i a3), .int a4, .int a5, .int a6, .ref (G.2.1 + 91)] m0 (.inl 4) 3 m1 := by
  refine Wt_of hl0 (by decide) (Nat.le_of_ble_eq_true rfl) ?_
  intro p e s mid args below meth c ls C hN hrt htab hl hR
  have hx := C.1.1
  have hb := C.1.2.1
  have hl : lv_has ls 9 [(0, .ref (G.2.1 + 0)), (1, .int a1), (2, .int a2), (3, .int (b2i a3)), (4, .int a4), (5, .int a5), (6, .int a6), (7, .ref (G.2.1 + 91))] := hl
  refine lv_aload hx hb (dk DL_wins 0 rfl) (lv_at hl 7 rfl) ?_
  refine lv_iconst (v := (0 : Int32)) hx hb (dk DL_wins 1 rfl) (by decide) ?_
  refine lv_aload_n hx hb (dk DL_wins 2 rfl) rfl (lv_at hl 0 rfl) ?_
  refine lv_iload_n hx hb (dk DL_wins 3 rfl) rfl (lv_at hl 1 rfl) ?_
  refine lv_iload_n hx hb (dk DL_wins 4 rfl) rfl (lv_at hl 2 rfl) ?_
  refine lv_iload_n hx hb (dk DL_wins 5 rfl) rfl (lv_at hl 3 rfl) ?_
  refine lv_iload hx hb (dk DL_wins 6 rfl) (lv_at hl 4 rfl) ?_
  refine lv_iload hx hb (dk DL_wins 7 rfl) (lv_at hl 5 rfl) ?_
  refine lv_iload hx hb (dk DL_wins 8 rfl) (lv_at hl 6 rfl) ?_
  have hM := C_T_wins l hl0 G a1 a2 a3 a4 a5 a6 m0 (Sum.inl 4) m1 hF
  rw [show ouL (Sum.inl 4) = (Sum.inl 4 : Ou) from rfl] at hM
  refine x_thr hR (x_runV (As := [.int a1, .int a2, .int (b2i a3), .int a4, .int a5, .int a6]) (rest := [.int (0 : Int32), .ref (G.2.1 + 91)]) C hR hM (by decide) (by decide) ob0 rfl wL_82 rfl rfl (Nat.le_of_ble_eq_true rfl) hl.1 ⟨Nat.le_refl 1, Nat.le_refl 6⟩ (dk DL_wins 9 rfl)) (fun H locs ce q hR h3 h4 h5 => ?_)
  refine w_catch (pre := [(0, 17, 20, 24), (0, 17, 24, 13)]) (suf := []) (a := 0) (b := 17) (h := 28) (ct := 34) (k := 4) C hN htab rfl (by decide) (List.forall_mem_cons.mpr ⟨⟨by decide, 2, by decide, by decide, (gd q1126 rfl)⟩, (List.forall_mem_cons.mpr ⟨⟨by decide, 1, by decide, by decide, (gd q781 rfl)⟩, (fun z hz => nomatch hz)⟩)⟩) rfl (by decide) (gd q1165 rfl) h3 h4 h5 ?_
  refine lv_astore (lv' := [(8, .ref q), (0, .ref (G.2.1 + 0)), (1, .int a1), (2, .int a2), (3, .int (b2i a3)), (4, .int a4), (5, .int a5), (6, .int a6), (7, .ref (G.2.1 + 91))]) hx hb (dk DL_wins 18 rfl) hl (by decide) rfl (fun ls hl => ?_)
  refine lv_iconst (v := (3 : Int32)) hx hb (dk DL_wins 19 rfl) (by decide) ?_
  exact w_ret C hrt hR rfl rfl (dk DL_wins 20 rfl)
set_option maxRecDepth 20000 in
theorem W_declares_n (l : Launch) (hl0 : l.stackTraces = false) (G : GG) (a1 : Int32) (a2 : Int32) (a3 : Bool) (a4 : Int32) (a5 : Int32) (m0 : Mem) (v : Bool) (m1 : Mem) (hF : F_T_declares a1 a2 a3 a4 a5 m0 = some (.inr v, m1)) : Wt l G yL_declares cL_declares 8 [(0, 23, 26, 24), (0, 23, 30, 13)] 294 [.ref (G.2.1 + 0), .int a1, .int a2, .int (b2i a3), .int a4, .int a5, .ref (G.2.1 + 91)] m0 (.inr none) 0 (sL m1 91 0 (b2l v)) := by
  refine Wt_of hl0 (by decide) (Nat.le_of_ble_eq_true rfl) ?_
  intro p e s mid args below meth c ls C hN hrt htab hl hR
  have hx := C.1.1
  have hb := C.1.2.1
  have hl : lv_has ls 8 [(0, .ref (G.2.1 + 0)), (1, .int a1), (2, .int a2), (3, .int (b2i a3)), (4, .int a4), (5, .int a5), (6, .ref (G.2.1 + 91))] := hl
  refine lv_aload hx hb (dk DL_declares 0 rfl) (lv_at hl 6 rfl) ?_
  refine lv_iconst (v := (0 : Int32)) hx hb (dk DL_declares 1 rfl) (by decide) ?_
  refine lv_aload_n hx hb (dk DL_declares 2 rfl) rfl (lv_at hl 0 rfl) ?_
  refine lv_iload_n hx hb (dk DL_declares 3 rfl) rfl (lv_at hl 1 rfl) ?_
  refine lv_iload_n hx hb (dk DL_declares 4 rfl) rfl (lv_at hl 2 rfl) ?_
  refine lv_iload_n hx hb (dk DL_declares 5 rfl) rfl (lv_at hl 3 rfl) ?_
  refine lv_iload hx hb (dk DL_declares 6 rfl) (lv_at hl 4 rfl) ?_
  refine lv_iload hx hb (dk DL_declares 7 rfl) (lv_at hl 5 rfl) ?_
  have hM := C_T_declares l hl0 G a1 a2 a3 a4 a5 m0 (Sum.inr v) m1 hF
  rw [show ouZ (Sum.inr v) = (Sum.inr (some (.int (b2i v))) : Ou) from rfl] at hM
  refine x_callVi (As := [.int a1, .int a2, .int (b2i a3), .int a4, .int a5]) (rest := [.int (0 : Int32), .ref (G.2.1 + 91)]) C hR hM (by decide) (by decide) ob0 rfl wL_86 rfl rfl (Nat.le_of_ble_eq_true rfl) hl.1 ⟨Nat.zero_le _, Nat.zero_le _⟩ (dk DL_declares 8 rfl) (fun H locs hR => ?_)
  cases v with
  | false =>
    refine z_ifeq (tgt := 21) hx hb (dk DL_declares 9 rfl) (by decide) (fun _ => ?_) (fun c7 => by cases c7)
    refine lv_lconst (v := (0 : Int64)) hx hb (dk DL_declares 12 rfl) (by decide) ?_
    refine r_last C hR ob91 rfl (dk DL_declares 13 rfl) (fun H locs hR => ?_)
    refine lv_goto (tgt := 34) hx hb (dk DL_declares 14 rfl) (by decide) ?_
    refine lv_iconst (v := (0 : Int32)) hx hb (dk DL_declares 21 rfl) (by decide) ?_
    exact w_ret C hrt hR rfl rfl (dk DL_declares 22 rfl)
  | true =>
    refine z_ifeq (tgt := 21) hx hb (dk DL_declares 9 rfl) (by decide) (fun c7 => absurd rfl c7) (fun _ => ?_)
    refine lv_lconst (v := (1 : Int64)) hx hb (dk DL_declares 10 rfl) (by decide) ?_
    refine lv_goto (tgt := 22) hx hb (dk DL_declares 11 rfl) (by decide) ?_
    refine r_last C hR ob91 rfl (dk DL_declares 13 rfl) (fun H locs hR => ?_)
    refine lv_goto (tgt := 34) hx hb (dk DL_declares 14 rfl) (by decide) ?_
    refine lv_iconst (v := (0 : Int32)) hx hb (dk DL_declares 21 rfl) (by decide) ?_
    exact w_ret C hrt hR rfl rfl (dk DL_declares 22 rfl)
set_option maxRecDepth 20000 in
theorem W_declares_2 (l : Launch) (hl0 : l.stackTraces = false) (G : GG) (a1 : Int32) (a2 : Int32) (a3 : Bool) (a4 : Int32) (a5 : Int32) (m0 : Mem) (m1 : Mem) (hF : F_T_declares a1 a2 a3 a4 a5 m0 = some (.inl 2, m1)) : Wt l G yL_declares cL_declares 8 [(0, 23, 26, 24), (0, 23, 30, 13)] 294 [.ref (G.2.1 + 0), .int a1, .int a2, .int (b2i a3), .int a4, .int a5, .ref (G.2.1 + 91)] m0 (.inl 2) 1 m1 := by
  refine Wt_of hl0 (by decide) (Nat.le_of_ble_eq_true rfl) ?_
  intro p e s mid args below meth c ls C hN hrt htab hl hR
  have hx := C.1.1
  have hb := C.1.2.1
  have hl : lv_has ls 8 [(0, .ref (G.2.1 + 0)), (1, .int a1), (2, .int a2), (3, .int (b2i a3)), (4, .int a4), (5, .int a5), (6, .ref (G.2.1 + 91))] := hl
  refine lv_aload hx hb (dk DL_declares 0 rfl) (lv_at hl 6 rfl) ?_
  refine lv_iconst (v := (0 : Int32)) hx hb (dk DL_declares 1 rfl) (by decide) ?_
  refine lv_aload_n hx hb (dk DL_declares 2 rfl) rfl (lv_at hl 0 rfl) ?_
  refine lv_iload_n hx hb (dk DL_declares 3 rfl) rfl (lv_at hl 1 rfl) ?_
  refine lv_iload_n hx hb (dk DL_declares 4 rfl) rfl (lv_at hl 2 rfl) ?_
  refine lv_iload_n hx hb (dk DL_declares 5 rfl) rfl (lv_at hl 3 rfl) ?_
  refine lv_iload hx hb (dk DL_declares 6 rfl) (lv_at hl 4 rfl) ?_
  refine lv_iload hx hb (dk DL_declares 7 rfl) (lv_at hl 5 rfl) ?_
  have hM := C_T_declares l hl0 G a1 a2 a3 a4 a5 m0 (Sum.inl 2) m1 hF
  rw [show ouZ (Sum.inl 2) = (Sum.inl 2 : Ou) from rfl] at hM
  refine x_thr hR (x_runV (As := [.int a1, .int a2, .int (b2i a3), .int a4, .int a5]) (rest := [.int (0 : Int32), .ref (G.2.1 + 91)]) C hR hM (by decide) (by decide) ob0 rfl wL_86 rfl rfl (Nat.le_of_ble_eq_true rfl) hl.1 ⟨Nat.le_refl 1, Nat.le_refl 6⟩ (dk DL_declares 8 rfl)) (fun H locs ce q hR h3 h4 h5 => ?_)
  refine w_catch (pre := []) (suf := [(0, 23, 30, 13)]) (a := 0) (b := 23) (h := 26) (ct := 24) (k := 2) C hN htab rfl (by decide) (fun z hz => nomatch hz) rfl (by decide) (gd q1126 rfl) h3 h4 h5 ?_
  refine lv_astore (lv' := [(7, .ref q), (0, .ref (G.2.1 + 0)), (1, .int a1), (2, .int a2), (3, .int (b2i a3)), (4, .int a4), (5, .int a5), (6, .ref (G.2.1 + 91))]) hx hb (dk DL_declares 15 rfl) hl (by decide) rfl (fun ls hl => ?_)
  refine lv_iconst (v := (1 : Int32)) hx hb (dk DL_declares 16 rfl) (by decide) ?_
  exact w_ret C hrt hR rfl rfl (dk DL_declares 17 rfl)
set_option maxRecDepth 20000 in
theorem W_declares_1 (l : Launch) (hl0 : l.stackTraces = false) (G : GG) (a1 : Int32) (a2 : Int32) (a3 : Bool) (a4 : Int32) (a5 : Int32) (m0 : Mem) (m1 : Mem) (hF : F_T_declares a1 a2 a3 a4 a5 m0 = some (.inl 1, m1)) : Wt l G yL_declares cL_declares 8 [(0, 23, 26, 24), (0, 23, 30, 13)] 294 [.ref (G.2.1 + 0), .int a1, .int a2, .int (b2i a3), .int a4, .int a5, .ref (G.2.1 + 91)] m0 (.inl 1) 2 m1 := by
  refine Wt_of hl0 (by decide) (Nat.le_of_ble_eq_true rfl) ?_
  intro p e s mid args below meth c ls C hN hrt htab hl hR
  have hx := C.1.1
  have hb := C.1.2.1
  have hl : lv_has ls 8 [(0, .ref (G.2.1 + 0)), (1, .int a1), (2, .int a2), (3, .int (b2i a3)), (4, .int a4), (5, .int a5), (6, .ref (G.2.1 + 91))] := hl
  refine lv_aload hx hb (dk DL_declares 0 rfl) (lv_at hl 6 rfl) ?_
  refine lv_iconst (v := (0 : Int32)) hx hb (dk DL_declares 1 rfl) (by decide) ?_
  refine lv_aload_n hx hb (dk DL_declares 2 rfl) rfl (lv_at hl 0 rfl) ?_
  refine lv_iload_n hx hb (dk DL_declares 3 rfl) rfl (lv_at hl 1 rfl) ?_
  refine lv_iload_n hx hb (dk DL_declares 4 rfl) rfl (lv_at hl 2 rfl) ?_
  refine lv_iload_n hx hb (dk DL_declares 5 rfl) rfl (lv_at hl 3 rfl) ?_
  refine lv_iload hx hb (dk DL_declares 6 rfl) (lv_at hl 4 rfl) ?_
  refine lv_iload hx hb (dk DL_declares 7 rfl) (lv_at hl 5 rfl) ?_
  have hM := C_T_declares l hl0 G a1 a2 a3 a4 a5 m0 (Sum.inl 1) m1 hF
  rw [show ouZ (Sum.inl 1) = (Sum.inl 1 : Ou) from rfl] at hM
  refine x_thr hR (x_runV (As := [.int a1, .int a2, .int (b2i a3), .int a4, .int a5]) (rest := [.int (0 : Int32), .ref (G.2.1 + 91)]) C hR hM (by decide) (by decide) ob0 rfl wL_86 rfl rfl (Nat.le_of_ble_eq_true rfl) hl.1 ⟨Nat.le_refl 1, Nat.le_refl 6⟩ (dk DL_declares 8 rfl)) (fun H locs ce q hR h3 h4 h5 => ?_)
  refine w_catch (pre := [(0, 23, 26, 24)]) (suf := []) (a := 0) (b := 23) (h := 30) (ct := 13) (k := 1) C hN htab rfl (by decide) (List.forall_mem_cons.mpr ⟨⟨by decide, 2, by decide, by decide, (gd q1126 rfl)⟩, (fun z hz => nomatch hz)⟩) rfl (by decide) (gd q781 rfl) h3 h4 h5 ?_
  refine lv_astore (lv' := [(7, .ref q), (0, .ref (G.2.1 + 0)), (1, .int a1), (2, .int a2), (3, .int (b2i a3)), (4, .int a4), (5, .int a5), (6, .ref (G.2.1 + 91))]) hx hb (dk DL_declares 18 rfl) hl (by decide) rfl (fun ls hl => ?_)
  refine lv_iconst (v := (2 : Int32)) hx hb (dk DL_declares 19 rfl) (by decide) ?_
  exact w_ret C hrt hR rfl rfl (dk DL_declares 20 rfl)
set_option maxRecDepth 20000 in
theorem W_when_n (l : Launch) (hl0 : l.stackTraces = false) (G : GG) (a1 : Int32) (a2 : Int32) (m0 : Mem) (v : Int32) (m1 : Mem) (hF : F_T_when a1 a2 m0 = some (.inr v, m1)) : Wt l G yL_when cL_when 5 [(0, 10, 13, 24), (0, 10, 17, 13)] 294 [.ref (G.2.1 + 0), .int a1, .int a2, .ref (G.2.1 + 91)] m0 (.inr none) 0 (sL m1 91 0 v.toInt64) := by
  refine Wt_of hl0 (by decide) (Nat.le_of_ble_eq_true rfl) ?_
  intro p e s mid args below meth c ls C hN hrt htab hl hR
  have hx := C.1.1
  have hb := C.1.2.1
  have hl : lv_has ls 5 [(0, .ref (G.2.1 + 0)), (1, .int a1), (2, .int a2), (3, .ref (G.2.1 + 91))] := hl
  refine lv_aload_n hx hb (dk DL_when 0 rfl) rfl (lv_at hl 3 rfl) ?_
  refine lv_iconst (v := (0 : Int32)) hx hb (dk DL_when 1 rfl) (by decide) ?_
  refine lv_aload_n hx hb (dk DL_when 2 rfl) rfl (lv_at hl 0 rfl) ?_
  refine lv_iload_n hx hb (dk DL_when 3 rfl) rfl (lv_at hl 1 rfl) ?_
  refine lv_iload_n hx hb (dk DL_when 4 rfl) rfl (lv_at hl 2 rfl) ?_
  have hM := C_T_when l hl0 G a1 a2 m0 (Sum.inr v) m1 hF
  rw [show ouI (Sum.inr v) = (Sum.inr (some (.int v)) : Ou) from rfl] at hM
  refine x_callVi (As := [.int a1, .int a2]) (rest := [.int (0 : Int32), .ref (G.2.1 + 91)]) C hR hM (by decide) (by decide) ob0 rfl wL_90 rfl rfl (Nat.le_of_ble_eq_true rfl) hl.1 ⟨Nat.zero_le _, Nat.zero_le _⟩ (dk DL_when 5 rfl) (fun H locs hR => ?_)
  refine lv_i2l hx hb (dk DL_when 6 rfl) rfl ?_
  refine r_last C hR ob91 rfl (dk DL_when 7 rfl) (fun H locs hR => ?_)
  refine lv_goto (tgt := 21) hx hb (dk DL_when 8 rfl) (by decide) ?_
  refine lv_iconst (v := (0 : Int32)) hx hb (dk DL_when 15 rfl) (by decide) ?_
  exact w_ret C hrt hR rfl rfl (dk DL_when 16 rfl)
set_option maxRecDepth 20000 in
theorem W_when_2 (l : Launch) (hl0 : l.stackTraces = false) (G : GG) (a1 : Int32) (a2 : Int32) (m0 : Mem) (m1 : Mem) (hF : F_T_when a1 a2 m0 = some (.inl 2, m1)) : Wt l G yL_when cL_when 5 [(0, 10, 13, 24), (0, 10, 17, 13)] 294 [.ref (G.2.1 + 0), .int a1, .int a2, .ref (G.2.1 + 91)] m0 (.inl 2) 1 m1 := by
  refine Wt_of hl0 (by decide) (Nat.le_of_ble_eq_true rfl) ?_
  intro p e s mid args below meth c ls C hN hrt htab hl hR
  have hx := C.1.1
  have hb := C.1.2.1
  have hl : lv_has ls 5 [(0, .ref (G.2.1 + 0)), (1, .int a1), (2, .int a2), (3, .ref (G.2.1 + 91))] := hl
  refine lv_aload_n hx hb (dk DL_when 0 rfl) rfl (lv_at hl 3 rfl) ?_
  refine lv_iconst (v := (0 : Int32)) hx hb (dk DL_when 1 rfl) (by decide) ?_
  refine lv_aload_n hx hb (dk DL_when 2 rfl) rfl (lv_at hl 0 rfl) ?_
  refine lv_iload_n hx hb (dk DL_when 3 rfl) rfl (lv_at hl 1 rfl) ?_
  refine lv_iload_n hx hb (dk DL_when 4 rfl) rfl (lv_at hl 2 rfl) ?_
  have hM := C_T_when l hl0 G a1 a2 m0 (Sum.inl 2) m1 hF
  rw [show ouI (Sum.inl 2) = (Sum.inl 2 : Ou) from rfl] at hM
  refine x_thr hR (x_runV (As := [.int a1, .int a2]) (rest := [.int (0 : Int32), .ref (G.2.1 + 91)]) C hR hM (by decide) (by decide) ob0 rfl wL_90 rfl rfl (Nat.le_of_ble_eq_true rfl) hl.1 ⟨Nat.le_refl 1, Nat.le_refl 6⟩ (dk DL_when 5 rfl)) (fun H locs ce q hR h3 h4 h5 => ?_)
  refine w_catch (pre := []) (suf := [(0, 10, 17, 13)]) (a := 0) (b := 10) (h := 13) (ct := 24) (k := 2) C hN htab rfl (by decide) (fun z hz => nomatch hz) rfl (by decide) (gd q1126 rfl) h3 h4 h5 ?_
  refine lv_astore (lv' := [(4, .ref q), (0, .ref (G.2.1 + 0)), (1, .int a1), (2, .int a2), (3, .ref (G.2.1 + 91))]) hx hb (dk DL_when 9 rfl) hl (by decide) rfl (fun ls hl => ?_)
  refine lv_iconst (v := (1 : Int32)) hx hb (dk DL_when 10 rfl) (by decide) ?_
  exact w_ret C hrt hR rfl rfl (dk DL_when 11 rfl)
set_option maxRecDepth 20000 in
theorem W_when_1 (l : Launch) (hl0 : l.stackTraces = false) (G : GG) (a1 : Int32) (a2 : Int32) (m0 : Mem) (m1 : Mem) (hF : F_T_when a1 a2 m0 = some (.inl 1, m1)) : Wt l G yL_when cL_when 5 [(0, 10, 13, 24), (0, 10, 17, 13)] 294 [.ref (G.2.1 + 0), .int a1, .int a2, .ref (G.2.1 + 91)] m0 (.inl 1) 2 m1 := by
  refine Wt_of hl0 (by decide) (Nat.le_of_ble_eq_true rfl) ?_
  intro p e s mid args below meth c ls C hN hrt htab hl hR
  have hx := C.1.1
  have hb := C.1.2.1
  have hl : lv_has ls 5 [(0, .ref (G.2.1 + 0)), (1, .int a1), (2, .int a2), (3, .ref (G.2.1 + 91))] := hl
  refine lv_aload_n hx hb (dk DL_when 0 rfl) rfl (lv_at hl 3 rfl) ?_
  refine lv_iconst (v := (0 : Int32)) hx hb (dk DL_when 1 rfl) (by decide) ?_
  refine lv_aload_n hx hb (dk DL_when 2 rfl) rfl (lv_at hl 0 rfl) ?_
  refine lv_iload_n hx hb (dk DL_when 3 rfl) rfl (lv_at hl 1 rfl) ?_
  refine lv_iload_n hx hb (dk DL_when 4 rfl) rfl (lv_at hl 2 rfl) ?_
  have hM := C_T_when l hl0 G a1 a2 m0 (Sum.inl 1) m1 hF
  rw [show ouI (Sum.inl 1) = (Sum.inl 1 : Ou) from rfl] at hM
  refine x_thr hR (x_runV (As := [.int a1, .int a2]) (rest := [.int (0 : Int32), .ref (G.2.1 + 91)]) C hR hM (by decide) (by decide) ob0 rfl wL_90 rfl rfl (Nat.le_of_ble_eq_true rfl) hl.1 ⟨Nat.le_refl 1, Nat.le_refl 6⟩ (dk DL_when 5 rfl)) (fun H locs ce q hR h3 h4 h5 => ?_)
  refine w_catch (pre := [(0, 10, 13, 24)]) (suf := []) (a := 0) (b := 10) (h := 17) (ct := 13) (k := 1) C hN htab rfl (by decide) (List.forall_mem_cons.mpr ⟨⟨by decide, 2, by decide, by decide, (gd q1126 rfl)⟩, (fun z hz => nomatch hz)⟩) rfl (by decide) (gd q781 rfl) h3 h4 h5 ?_
  refine lv_astore (lv' := [(4, .ref q), (0, .ref (G.2.1 + 0)), (1, .int a1), (2, .int a2), (3, .ref (G.2.1 + 91))]) hx hb (dk DL_when 12 rfl) hl (by decide) rfl (fun ls hl => ?_)
  refine lv_iconst (v := (2 : Int32)) hx hb (dk DL_when 13 rfl) (by decide) ?_
  exact w_ret C hrt hR rfl rfl (dk DL_when 14 rfl)
set_option maxRecDepth 20000 in
theorem W_enforces_n (l : Launch) (hl0 : l.stackTraces = false) (G : GG) (a1 : Int32) (a2 : Int32) (m0 : Mem) (v : Bool) (m1 : Mem) (hF : F_T_enforces a1 a2 m0 = some (.inr v, m1)) : Wt l G yL_enforces cL_enforces 5 [(0, 17, 20, 24), (0, 17, 24, 13)] 293 [.ref (G.2.1 + 0), .int a1, .int a2, .ref (G.2.1 + 91)] m0 (.inr none) 0 (sL m1 91 0 (b2l v)) := by
  refine Wt_of hl0 (by decide) (Nat.le_of_ble_eq_true rfl) ?_
  intro p e s mid args below meth c ls C hN hrt htab hl hR
  have hx := C.1.1
  have hb := C.1.2.1
  have hl : lv_has ls 5 [(0, .ref (G.2.1 + 0)), (1, .int a1), (2, .int a2), (3, .ref (G.2.1 + 91))] := hl
  refine lv_aload_n hx hb (dk DL_enforces 0 rfl) rfl (lv_at hl 3 rfl) ?_
  refine lv_iconst (v := (0 : Int32)) hx hb (dk DL_enforces 1 rfl) (by decide) ?_
  refine lv_aload_n hx hb (dk DL_enforces 2 rfl) rfl (lv_at hl 0 rfl) ?_
  refine lv_iload_n hx hb (dk DL_enforces 3 rfl) rfl (lv_at hl 1 rfl) ?_
  refine lv_iload_n hx hb (dk DL_enforces 4 rfl) rfl (lv_at hl 2 rfl) ?_
  have hM := C_T_enforces l hl0 G a1 a2 m0 (Sum.inr v) m1 hF
  rw [show ouZ (Sum.inr v) = (Sum.inr (some (.int (b2i v))) : Ou) from rfl] at hM
  refine x_callVi (As := [.int a1, .int a2]) (rest := [.int (0 : Int32), .ref (G.2.1 + 91)]) C hR hM (by decide) (by decide) ob0 rfl wL_93 rfl rfl (Nat.le_of_ble_eq_true rfl) hl.1 ⟨Nat.zero_le _, Nat.zero_le _⟩ (dk DL_enforces 5 rfl) (fun H locs hR => ?_)
  cases v with
  | false =>
    refine z_ifeq (tgt := 15) hx hb (dk DL_enforces 6 rfl) (by decide) (fun _ => ?_) (fun c7 => by cases c7)
    refine lv_lconst (v := (0 : Int64)) hx hb (dk DL_enforces 9 rfl) (by decide) ?_
    refine r_last C hR ob91 rfl (dk DL_enforces 10 rfl) (fun H locs hR => ?_)
    refine lv_goto (tgt := 28) hx hb (dk DL_enforces 11 rfl) (by decide) ?_
    refine lv_iconst (v := (0 : Int32)) hx hb (dk DL_enforces 18 rfl) (by decide) ?_
    exact w_ret C hrt hR rfl rfl (dk DL_enforces 19 rfl)
  | true =>
    refine z_ifeq (tgt := 15) hx hb (dk DL_enforces 6 rfl) (by decide) (fun c7 => absurd rfl c7) (fun _ => ?_)
    refine lv_lconst (v := (1 : Int64)) hx hb (dk DL_enforces 7 rfl) (by decide) ?_
    refine lv_goto (tgt := 16) hx hb (dk DL_enforces 8 rfl) (by decide) ?_
    refine r_last C hR ob91 rfl (dk DL_enforces 10 rfl) (fun H locs hR => ?_)
    refine lv_goto (tgt := 28) hx hb (dk DL_enforces 11 rfl) (by decide) ?_
    refine lv_iconst (v := (0 : Int32)) hx hb (dk DL_enforces 18 rfl) (by decide) ?_
    exact w_ret C hrt hR rfl rfl (dk DL_enforces 19 rfl)
set_option maxRecDepth 20000 in
theorem W_enforces_2 (l : Launch) (hl0 : l.stackTraces = false) (G : GG) (a1 : Int32) (a2 : Int32) (m0 : Mem) (m1 : Mem) (hF : F_T_enforces a1 a2 m0 = some (.inl 2, m1)) : Wt l G yL_enforces cL_enforces 5 [(0, 17, 20, 24), (0, 17, 24, 13)] 293 [.ref (G.2.1 + 0), .int a1, .int a2, .ref (G.2.1 + 91)] m0 (.inl 2) 1 m1 := by
  refine Wt_of hl0 (by decide) (Nat.le_of_ble_eq_true rfl) ?_
  intro p e s mid args below meth c ls C hN hrt htab hl hR
  have hx := C.1.1
  have hb := C.1.2.1
  have hl : lv_has ls 5 [(0, .ref (G.2.1 + 0)), (1, .int a1), (2, .int a2), (3, .ref (G.2.1 + 91))] := hl
  refine lv_aload_n hx hb (dk DL_enforces 0 rfl) rfl (lv_at hl 3 rfl) ?_
  refine lv_iconst (v := (0 : Int32)) hx hb (dk DL_enforces 1 rfl) (by decide) ?_
  refine lv_aload_n hx hb (dk DL_enforces 2 rfl) rfl (lv_at hl 0 rfl) ?_
  refine lv_iload_n hx hb (dk DL_enforces 3 rfl) rfl (lv_at hl 1 rfl) ?_
  refine lv_iload_n hx hb (dk DL_enforces 4 rfl) rfl (lv_at hl 2 rfl) ?_
  have hM := C_T_enforces l hl0 G a1 a2 m0 (Sum.inl 2) m1 hF
  rw [show ouZ (Sum.inl 2) = (Sum.inl 2 : Ou) from rfl] at hM
  refine x_thr hR (x_runV (As := [.int a1, .int a2]) (rest := [.int (0 : Int32), .ref (G.2.1 + 91)]) C hR hM (by decide) (by decide) ob0 rfl wL_93 rfl rfl (Nat.le_of_ble_eq_true rfl) hl.1 ⟨Nat.le_refl 1, Nat.le_refl 6⟩ (dk DL_enforces 5 rfl)) (fun H locs ce q hR h3 h4 h5 => ?_)
  refine w_catch (pre := []) (suf := [(0, 17, 24, 13)]) (a := 0) (b := 17) (h := 20) (ct := 24) (k := 2) C hN htab rfl (by decide) (fun z hz => nomatch hz) rfl (by decide) (gd q1126 rfl) h3 h4 h5 ?_
  refine lv_astore (lv' := [(4, .ref q), (0, .ref (G.2.1 + 0)), (1, .int a1), (2, .int a2), (3, .ref (G.2.1 + 91))]) hx hb (dk DL_enforces 12 rfl) hl (by decide) rfl (fun ls hl => ?_)
  refine lv_iconst (v := (1 : Int32)) hx hb (dk DL_enforces 13 rfl) (by decide) ?_
  exact w_ret C hrt hR rfl rfl (dk DL_enforces 14 rfl)
set_option maxRecDepth 20000 in
theorem W_enforces_1 (l : Launch) (hl0 : l.stackTraces = false) (G : GG) (a1 : Int32) (a2 : Int32) (m0 : Mem) (m1 : Mem) (hF : F_T_enforces a1 a2 m0 = some (.inl 1, m1)) : Wt l G yL_enforces cL_enforces 5 [(0, 17, 20, 24), (0, 17, 24, 13)] 293 [.ref (G.2.1 + 0), .int a1, .int a2, .ref (G.2.1 + 91)] m0 (.inl 1) 2 m1 := by
  refine Wt_of hl0 (by decide) (Nat.le_of_ble_eq_true rfl) ?_
  intro p e s mid args below meth c ls C hN hrt htab hl hR
  have hx := C.1.1
  have hb := C.1.2.1
  have hl : lv_has ls 5 [(0, .ref (G.2.1 + 0)), (1, .int a1), (2, .int a2), (3, .ref (G.2.1 + 91))] := hl
  refine lv_aload_n hx hb (dk DL_enforces 0 rfl) rfl (lv_at hl 3 rfl) ?_
  refine lv_iconst (v := (0 : Int32)) hx hb (dk DL_enforces 1 rfl) (by decide) ?_
  refine lv_aload_n hx hb (dk DL_enforces 2 rfl) rfl (lv_at hl 0 rfl) ?_
  refine lv_iload_n hx hb (dk DL_enforces 3 rfl) rfl (lv_at hl 1 rfl) ?_
  refine lv_iload_n hx hb (dk DL_enforces 4 rfl) rfl (lv_at hl 2 rfl) ?_
  have hM := C_T_enforces l hl0 G a1 a2 m0 (Sum.inl 1) m1 hF
  rw [show ouZ (Sum.inl 1) = (Sum.inl 1 : Ou) from rfl] at hM
  refine x_thr hR (x_runV (As := [.int a1, .int a2]) (rest := [.int (0 : Int32), .ref (G.2.1 + 91)]) C hR hM (by decide) (by decide) ob0 rfl wL_93 rfl rfl (Nat.le_of_ble_eq_true rfl) hl.1 ⟨Nat.le_refl 1, Nat.le_refl 6⟩ (dk DL_enforces 5 rfl)) (fun H locs ce q hR h3 h4 h5 => ?_)
  refine w_catch (pre := [(0, 17, 20, 24)]) (suf := []) (a := 0) (b := 17) (h := 24) (ct := 13) (k := 1) C hN htab rfl (by decide) (List.forall_mem_cons.mpr ⟨⟨by decide, 2, by decide, by decide, (gd q1126 rfl)⟩, (fun z hz => nomatch hz)⟩) rfl (by decide) (gd q781 rfl) h3 h4 h5 ?_
  refine lv_astore (lv' := [(4, .ref q), (0, .ref (G.2.1 + 0)), (1, .int a1), (2, .int a2), (3, .ref (G.2.1 + 91))]) hx hb (dk DL_enforces 15 rfl) hl (by decide) rfl (fun ls hl => ?_)
  refine lv_iconst (v := (2 : Int32)) hx hb (dk DL_enforces 16 rfl) (by decide) ?_
  exact w_ret C hrt hR rfl rfl (dk DL_enforces 17 rfl)
set_option maxRecDepth 20000 in
theorem W_chased_n (l : Launch) (hl0 : l.stackTraces = false) (G : GG) (a1 : Int32) (m0 : Mem) (v : Int32) (m1 : Mem) (hF : F_T_chased a1 m0 = some (.inr v, m1)) : Wt l G yL_chased cL_chased 4 [(0, 9, 12, 24)] 289 [.ref (G.2.1 + 0), .int a1, .ref (G.2.1 + 91)] m0 (.inr none) 0 (sL m1 91 0 v.toInt64) := by
  refine Wt_of hl0 (by decide) (Nat.le_of_ble_eq_true rfl) ?_
  intro p e s mid args below meth c ls C hN hrt htab hl hR
  have hx := C.1.1
  have hb := C.1.2.1
  have hl : lv_has ls 4 [(0, .ref (G.2.1 + 0)), (1, .int a1), (2, .ref (G.2.1 + 91))] := hl
  refine lv_aload_n hx hb (dk DL_chased 0 rfl) rfl (lv_at hl 2 rfl) ?_
  refine lv_iconst (v := (0 : Int32)) hx hb (dk DL_chased 1 rfl) (by decide) ?_
  refine lv_aload_n hx hb (dk DL_chased 2 rfl) rfl (lv_at hl 0 rfl) ?_
  refine lv_iload_n hx hb (dk DL_chased 3 rfl) rfl (lv_at hl 1 rfl) ?_
  have hM := C_T_chased l hl0 G a1 m0 (Sum.inr v) m1 hF
  rw [show ouI (Sum.inr v) = (Sum.inr (some (.int v)) : Ou) from rfl] at hM
  refine x_callVi (As := [.int a1]) (rest := [.int (0 : Int32), .ref (G.2.1 + 91)]) C hR hM (by decide) (by decide) ob0 rfl wL_97 rfl rfl (Nat.le_of_ble_eq_true rfl) hl.1 ⟨Nat.zero_le _, Nat.zero_le _⟩ (dk DL_chased 4 rfl) (fun H locs hR => ?_)
  refine lv_i2l hx hb (dk DL_chased 5 rfl) rfl ?_
  refine r_last C hR ob91 rfl (dk DL_chased 6 rfl) (fun H locs hR => ?_)
  refine lv_goto (tgt := 15) hx hb (dk DL_chased 7 rfl) (by decide) ?_
  refine lv_iconst (v := (0 : Int32)) hx hb (dk DL_chased 11 rfl) (by decide) ?_
  exact w_ret C hrt hR rfl rfl (dk DL_chased 12 rfl)
set_option maxRecDepth 20000 in
theorem W_chased_2 (l : Launch) (hl0 : l.stackTraces = false) (G : GG) (a1 : Int32) (m0 : Mem) (m1 : Mem) (hF : F_T_chased a1 m0 = some (.inl 2, m1)) : Wt l G yL_chased cL_chased 4 [(0, 9, 12, 24)] 289 [.ref (G.2.1 + 0), .int a1, .ref (G.2.1 + 91)] m0 (.inl 2) 1 m1 := by
  refine Wt_of hl0 (by decide) (Nat.le_of_ble_eq_true rfl) ?_
  intro p e s mid args below meth c ls C hN hrt htab hl hR
  have hx := C.1.1
  have hb := C.1.2.1
  have hl : lv_has ls 4 [(0, .ref (G.2.1 + 0)), (1, .int a1), (2, .ref (G.2.1 + 91))] := hl
  refine lv_aload_n hx hb (dk DL_chased 0 rfl) rfl (lv_at hl 2 rfl) ?_
  refine lv_iconst (v := (0 : Int32)) hx hb (dk DL_chased 1 rfl) (by decide) ?_
  refine lv_aload_n hx hb (dk DL_chased 2 rfl) rfl (lv_at hl 0 rfl) ?_
  refine lv_iload_n hx hb (dk DL_chased 3 rfl) rfl (lv_at hl 1 rfl) ?_
  have hM := C_T_chased l hl0 G a1 m0 (Sum.inl 2) m1 hF
  rw [show ouI (Sum.inl 2) = (Sum.inl 2 : Ou) from rfl] at hM
  refine x_thr hR (x_runV (As := [.int a1]) (rest := [.int (0 : Int32), .ref (G.2.1 + 91)]) C hR hM (by decide) (by decide) ob0 rfl wL_97 rfl rfl (Nat.le_of_ble_eq_true rfl) hl.1 ⟨Nat.le_refl 1, Nat.le_refl 6⟩ (dk DL_chased 4 rfl)) (fun H locs ce q hR h3 h4 h5 => ?_)
  refine w_catch (pre := []) (suf := []) (a := 0) (b := 9) (h := 12) (ct := 24) (k := 2) C hN htab rfl (by decide) (fun z hz => nomatch hz) rfl (by decide) (gd q1126 rfl) h3 h4 h5 ?_
  refine lv_astore_n (lv' := [(3, .ref q), (0, .ref (G.2.1 + 0)), (1, .int a1), (2, .ref (G.2.1 + 91))]) hx hb (dk DL_chased 8 rfl) rfl hl (by decide) rfl (fun ls hl => ?_)
  refine lv_iconst (v := (1 : Int32)) hx hb (dk DL_chased 9 rfl) (by decide) ?_
  exact w_ret C hrt hR rfl rfl (dk DL_chased 10 rfl)
set_option maxRecDepth 20000 in
theorem W_holds_n (l : Launch) (hl0 : l.stackTraces = false) (G : GG) (a1 : Int32) (a2 : Bool) (a3 : Int32) (a4 : Int32) (m0 : Mem) (v : Bool) (m1 : Mem) (hF : F_T_holds a1 a2 a3 a4 m0 = some (.inr v, m1)) : Wt l G yL_holds cL_holds 7 [(0, 21, 24, 24), (0, 21, 28, 13)] 294 [.ref (G.2.1 + 0), .int a1, .int (b2i a2), .int a3, .int a4, .ref (G.2.1 + 91)] m0 (.inr none) 0 (sL m1 91 0 (b2l v)) := by
  refine Wt_of hl0 (by decide) (Nat.le_of_ble_eq_true rfl) ?_
  intro p e s mid args below meth c ls C hN hrt htab hl hR
  have hx := C.1.1
  have hb := C.1.2.1
  have hl : lv_has ls 7 [(0, .ref (G.2.1 + 0)), (1, .int a1), (2, .int (b2i a2)), (3, .int a3), (4, .int a4), (5, .ref (G.2.1 + 91))] := hl
  refine lv_aload hx hb (dk DL_holds 0 rfl) (lv_at hl 5 rfl) ?_
  refine lv_iconst (v := (0 : Int32)) hx hb (dk DL_holds 1 rfl) (by decide) ?_
  refine lv_aload_n hx hb (dk DL_holds 2 rfl) rfl (lv_at hl 0 rfl) ?_
  refine lv_iload_n hx hb (dk DL_holds 3 rfl) rfl (lv_at hl 1 rfl) ?_
  refine lv_iload_n hx hb (dk DL_holds 4 rfl) rfl (lv_at hl 2 rfl) ?_
  refine lv_iload_n hx hb (dk DL_holds 5 rfl) rfl (lv_at hl 3 rfl) ?_
  refine lv_iload hx hb (dk DL_holds 6 rfl) (lv_at hl 4 rfl) ?_
  have hM := C_T_holds l hl0 G a1 a2 a3 a4 m0 (Sum.inr v) m1 hF
  rw [show ouZ (Sum.inr v) = (Sum.inr (some (.int (b2i v))) : Ou) from rfl] at hM
  refine x_callVi (As := [.int a1, .int (b2i a2), .int a3, .int a4]) (rest := [.int (0 : Int32), .ref (G.2.1 + 91)]) C hR hM (by decide) (by decide) ob0 rfl wL_100 rfl rfl (Nat.le_of_ble_eq_true rfl) hl.1 ⟨Nat.zero_le _, Nat.zero_le _⟩ (dk DL_holds 7 rfl) (fun H locs hR => ?_)
  cases v with
  | false =>
    refine z_ifeq (tgt := 19) hx hb (dk DL_holds 8 rfl) (by decide) (fun _ => ?_) (fun c7 => by cases c7)
    refine lv_lconst (v := (0 : Int64)) hx hb (dk DL_holds 11 rfl) (by decide) ?_
    refine r_last C hR ob91 rfl (dk DL_holds 12 rfl) (fun H locs hR => ?_)
    refine lv_goto (tgt := 32) hx hb (dk DL_holds 13 rfl) (by decide) ?_
    refine lv_iconst (v := (0 : Int32)) hx hb (dk DL_holds 20 rfl) (by decide) ?_
    exact w_ret C hrt hR rfl rfl (dk DL_holds 21 rfl)
  | true =>
    refine z_ifeq (tgt := 19) hx hb (dk DL_holds 8 rfl) (by decide) (fun c7 => absurd rfl c7) (fun _ => ?_)
    refine lv_lconst (v := (1 : Int64)) hx hb (dk DL_holds 9 rfl) (by decide) ?_
    refine lv_goto (tgt := 20) hx hb (dk DL_holds 10 rfl) (by decide) ?_
    refine r_last C hR ob91 rfl (dk DL_holds 12 rfl) (fun H locs hR => ?_)
    refine lv_goto (tgt := 32) hx hb (dk DL_holds 13 rfl) (by decide) ?_
    refine lv_iconst (v := (0 : Int32)) hx hb (dk DL_holds 20 rfl) (by decide) ?_
    exact w_ret C hrt hR rfl rfl (dk DL_holds 21 rfl)
set_option maxRecDepth 20000 in
theorem W_holds_2 (l : Launch) (hl0 : l.stackTraces = false) (G : GG) (a1 : Int32) (a2 : Bool) (a3 : Int32) (a4 : Int32) (m0 : Mem) (m1 : Mem) (hF : F_T_holds a1 a2 a3 a4 m0 = some (.inl 2, m1)) : Wt l G yL_holds cL_holds 7 [(0, 21, 24, 24), (0, 21, 28, 13)] 294 [.ref (G.2.1 + 0), .int a1, .int (b2i a2), .int a3, .int a4, .ref (G.2.1 + 91)] m0 (.inl 2) 1 m1 := by
  refine Wt_of hl0 (by decide) (Nat.le_of_ble_eq_true rfl) ?_
  intro p e s mid args below meth c ls C hN hrt htab hl hR
  have hx := C.1.1
  have hb := C.1.2.1
  have hl : lv_has ls 7 [(0, .ref (G.2.1 + 0)), (1, .int a1), (2, .int (b2i a2)), (3, .int a3), (4, .int a4), (5, .ref (G.2.1 + 91))] := hl
  refine lv_aload hx hb (dk DL_holds 0 rfl) (lv_at hl 5 rfl) ?_
  refine lv_iconst (v := (0 : Int32)) hx hb (dk DL_holds 1 rfl) (by decide) ?_
  refine lv_aload_n hx hb (dk DL_holds 2 rfl) rfl (lv_at hl 0 rfl) ?_
  refine lv_iload_n hx hb (dk DL_holds 3 rfl) rfl (lv_at hl 1 rfl) ?_
  refine lv_iload_n hx hb (dk DL_holds 4 rfl) rfl (lv_at hl 2 rfl) ?_
  refine lv_iload_n hx hb (dk DL_holds 5 rfl) rfl (lv_at hl 3 rfl) ?_
  refine lv_iload hx hb (dk DL_holds 6 rfl) (lv_at hl 4 rfl) ?_
  have hM := C_T_holds l hl0 G a1 a2 a3 a4 m0 (Sum.inl 2) m1 hF
  rw [show ouZ (Sum.inl 2) = (Sum.inl 2 : Ou) from rfl] at hM
  refine x_thr hR (x_runV (As := [.int a1, .int (b2i a2), .int a3, .int a4]) (rest := [.int (0 : Int32), .ref (G.2.1 + 91)]) C hR hM (by decide) (by decide) ob0 rfl wL_100 rfl rfl (Nat.le_of_ble_eq_true rfl) hl.1 ⟨Nat.le_refl 1, Nat.le_refl 6⟩ (dk DL_holds 7 rfl)) (fun H locs ce q hR h3 h4 h5 => ?_)
  refine w_catch (pre := []) (suf := [(0, 21, 28, 13)]) (a := 0) (b := 21) (h := 24) (ct := 24) (k := 2) C hN htab rfl (by decide) (fun z hz => nomatch hz) rfl (by decide) (gd q1126 rfl) h3 h4 h5 ?_
  refine lv_astore (lv' := [(6, .ref q), (0, .ref (G.2.1 + 0)), (1, .int a1), (2, .int (b2i a2)), (3, .int a3), (4, .int a4), (5, .ref (G.2.1 + 91))]) hx hb (dk DL_holds 14 rfl) hl (by decide) rfl (fun ls hl => ?_)
  refine lv_iconst (v := (1 : Int32)) hx hb (dk DL_holds 15 rfl) (by decide) ?_
  exact w_ret C hrt hR rfl rfl (dk DL_holds 16 rfl)
set_option maxRecDepth 20000 in
theorem W_holds_1 (l : Launch) (hl0 : l.stackTraces = false) (G : GG) (a1 : Int32) (a2 : Bool) (a3 : Int32) (a4 : Int32) (m0 : Mem) (m1 : Mem) (hF : F_T_holds a1 a2 a3 a4 m0 = some (.inl 1, m1)) : Wt l G yL_holds cL_holds 7 [(0, 21, 24, 24), (0, 21, 28, 13)] 294 [.ref (G.2.1 + 0), .int a1, .int (b2i a2), .int a3, .int a4, .ref (G.2.1 + 91)] m0 (.inl 1) 2 m1 := by
  refine Wt_of hl0 (by decide) (Nat.le_of_ble_eq_true rfl) ?_
  intro p e s mid args below meth c ls C hN hrt htab hl hR
  have hx := C.1.1
  have hb := C.1.2.1
  have hl : lv_has ls 7 [(0, .ref (G.2.1 + 0)), (1, .int a1), (2, .int (b2i a2)), (3, .int a3), (4, .int a4), (5, .ref (G.2.1 + 91))] := hl
  refine lv_aload hx hb (dk DL_holds 0 rfl) (lv_at hl 5 rfl) ?_
  refine lv_iconst (v := (0 : Int32)) hx hb (dk DL_holds 1 rfl) (by decide) ?_
  refine lv_aload_n hx hb (dk DL_holds 2 rfl) rfl (lv_at hl 0 rfl) ?_
  refine lv_iload_n hx hb (dk DL_holds 3 rfl) rfl (lv_at hl 1 rfl) ?_
  refine lv_iload_n hx hb (dk DL_holds 4 rfl) rfl (lv_at hl 2 rfl) ?_
  refine lv_iload_n hx hb (dk DL_holds 5 rfl) rfl (lv_at hl 3 rfl) ?_
  refine lv_iload hx hb (dk DL_holds 6 rfl) (lv_at hl 4 rfl) ?_
  have hM := C_T_holds l hl0 G a1 a2 a3 a4 m0 (Sum.inl 1) m1 hF
  rw [show ouZ (Sum.inl 1) = (Sum.inl 1 : Ou) from rfl] at hM
  refine x_thr hR (x_runV (As := [.int a1, .int (b2i a2), .int a3, .int a4]) (rest := [.int (0 : Int32), .ref (G.2.1 + 91)]) C hR hM (by decide) (by decide) ob0 rfl wL_100 rfl rfl (Nat.le_of_ble_eq_true rfl) hl.1 ⟨Nat.le_refl 1, Nat.le_refl 6⟩ (dk DL_holds 7 rfl)) (fun H locs ce q hR h3 h4 h5 => ?_)
  refine w_catch (pre := [(0, 21, 24, 24)]) (suf := []) (a := 0) (b := 21) (h := 28) (ct := 13) (k := 1) C hN htab rfl (by decide) (List.forall_mem_cons.mpr ⟨⟨by decide, 2, by decide, by decide, (gd q1126 rfl)⟩, (fun z hz => nomatch hz)⟩) rfl (by decide) (gd q781 rfl) h3 h4 h5 ?_
  refine lv_astore (lv' := [(6, .ref q), (0, .ref (G.2.1 + 0)), (1, .int a1), (2, .int (b2i a2)), (3, .int a3), (4, .int a4), (5, .ref (G.2.1 + 91))]) hx hb (dk DL_holds 17 rfl) hl (by decide) rfl (fun ls hl => ?_)
  refine lv_iconst (v := (2 : Int32)) hx hb (dk DL_holds 18 rfl) (by decide) ?_
  exact w_ret C hrt hR rfl rfl (dk DL_holds 19 rfl)
set_option maxRecDepth 20000 in
theorem W_turnover_n (l : Launch) (hl0 : l.stackTraces = false) (G : GG) (a1 : Int32) (a2 : Int32) (m0 : Mem) (v : Int32) (m1 : Mem) (hF : F_T_turnover a1 a2 m0 = some (.inr v, m1)) : Wt l G yL_turnover cL_turnover 5 [(0, 10, 13, 24), (0, 10, 17, 13)] 294 [.ref (G.2.1 + 0), .int a1, .int a2, .ref (G.2.1 + 91)] m0 (.inr none) 0 (sL m1 91 0 v.toInt64) := by
  refine Wt_of hl0 (by decide) (Nat.le_of_ble_eq_true rfl) ?_
  intro p e s mid args below meth c ls C hN hrt htab hl hR
  have hx := C.1.1
  have hb := C.1.2.1
  have hl : lv_has ls 5 [(0, .ref (G.2.1 + 0)), (1, .int a1), (2, .int a2), (3, .ref (G.2.1 + 91))] := hl
  refine lv_aload_n hx hb (dk DL_turnover 0 rfl) rfl (lv_at hl 3 rfl) ?_
  refine lv_iconst (v := (0 : Int32)) hx hb (dk DL_turnover 1 rfl) (by decide) ?_
  refine lv_aload_n hx hb (dk DL_turnover 2 rfl) rfl (lv_at hl 0 rfl) ?_
  refine lv_iload_n hx hb (dk DL_turnover 3 rfl) rfl (lv_at hl 1 rfl) ?_
  refine lv_iload_n hx hb (dk DL_turnover 4 rfl) rfl (lv_at hl 2 rfl) ?_
  have hM := C_T_turnover l hl0 G a1 a2 m0 (Sum.inr v) m1 hF
  rw [show ouI (Sum.inr v) = (Sum.inr (some (.int v)) : Ou) from rfl] at hM
  refine x_callVi (As := [.int a1, .int a2]) (rest := [.int (0 : Int32), .ref (G.2.1 + 91)]) C hR hM (by decide) (by decide) ob0 rfl wL_104 rfl rfl (Nat.le_of_ble_eq_true rfl) hl.1 ⟨Nat.zero_le _, Nat.zero_le _⟩ (dk DL_turnover 5 rfl) (fun H locs hR => ?_)
  refine lv_i2l hx hb (dk DL_turnover 6 rfl) rfl ?_
  refine r_last C hR ob91 rfl (dk DL_turnover 7 rfl) (fun H locs hR => ?_)
  refine lv_goto (tgt := 21) hx hb (dk DL_turnover 8 rfl) (by decide) ?_
  refine lv_iconst (v := (0 : Int32)) hx hb (dk DL_turnover 15 rfl) (by decide) ?_
  exact w_ret C hrt hR rfl rfl (dk DL_turnover 16 rfl)
set_option maxRecDepth 20000 in
theorem W_turnover_2 (l : Launch) (hl0 : l.stackTraces = false) (G : GG) (a1 : Int32) (a2 : Int32) (m0 : Mem) (m1 : Mem) (hF : F_T_turnover a1 a2 m0 = some (.inl 2, m1)) : Wt l G yL_turnover cL_turnover 5 [(0, 10, 13, 24), (0, 10, 17, 13)] 294 [.ref (G.2.1 + 0), .int a1, .int a2, .ref (G.2.1 + 91)] m0 (.inl 2) 1 m1 := by
  refine Wt_of hl0 (by decide) (Nat.le_of_ble_eq_true rfl) ?_
  intro p e s mid args below meth c ls C hN hrt htab hl hR
  have hx := C.1.1
  have hb := C.1.2.1
  have hl : lv_has ls 5 [(0, .ref (G.2.1 + 0)), (1, .int a1), (2, .int a2), (3, .ref (G.2.1 + 91))] := hl
  refine lv_aload_n hx hb (dk DL_turnover 0 rfl) rfl (lv_at hl 3 rfl) ?_
  refine lv_iconst (v := (0 : Int32)) hx hb (dk DL_turnover 1 rfl) (by decide) ?_
  refine lv_aload_n hx hb (dk DL_turnover 2 rfl) rfl (lv_at hl 0 rfl) ?_
  refine lv_iload_n hx hb (dk DL_turnover 3 rfl) rfl (lv_at hl 1 rfl) ?_
  refine lv_iload_n hx hb (dk DL_turnover 4 rfl) rfl (lv_at hl 2 rfl) ?_
  have hM := C_T_turnover l hl0 G a1 a2 m0 (Sum.inl 2) m1 hF
  rw [show ouI (Sum.inl 2) = (Sum.inl 2 : Ou) from rfl] at hM
  refine x_thr hR (x_runV (As := [.int a1, .int a2]) (rest := [.int (0 : Int32), .ref (G.2.1 + 91)]) C hR hM (by decide) (by decide) ob0 rfl wL_104 rfl rfl (Nat.le_of_ble_eq_true rfl) hl.1 ⟨Nat.le_refl 1, Nat.le_refl 6⟩ (dk DL_turnover 5 rfl)) (fun H locs ce q hR h3 h4 h5 => ?_)
  refine w_catch (pre := []) (suf := [(0, 10, 17, 13)]) (a := 0) (b := 10) (h := 13) (ct := 24) (k := 2) C hN htab rfl (by decide) (fun z hz => nomatch hz) rfl (by decide) (gd q1126 rfl) h3 h4 h5 ?_
  refine lv_astore (lv' := [(4, .ref q), (0, .ref (G.2.1 + 0)), (1, .int a1), (2, .int a2), (3, .ref (G.2.1 + 91))]) hx hb (dk DL_turnover 9 rfl) hl (by decide) rfl (fun ls hl => ?_)
  refine lv_iconst (v := (1 : Int32)) hx hb (dk DL_turnover 10 rfl) (by decide) ?_
  exact w_ret C hrt hR rfl rfl (dk DL_turnover 11 rfl)
set_option maxRecDepth 20000 in
theorem W_turnover_1 (l : Launch) (hl0 : l.stackTraces = false) (G : GG) (a1 : Int32) (a2 : Int32) (m0 : Mem) (m1 : Mem) (hF : F_T_turnover a1 a2 m0 = some (.inl 1, m1)) : Wt l G yL_turnover cL_turnover 5 [(0, 10, 13, 24), (0, 10, 17, 13)] 294 [.ref (G.2.1 + 0), .int a1, .int a2, .ref (G.2.1 + 91)] m0 (.inl 1) 2 m1 := by
  refine Wt_of hl0 (by decide) (Nat.le_of_ble_eq_true rfl) ?_
  intro p e s mid args below meth c ls C hN hrt htab hl hR
  have hx := C.1.1
  have hb := C.1.2.1
  have hl : lv_has ls 5 [(0, .ref (G.2.1 + 0)), (1, .int a1), (2, .int a2), (3, .ref (G.2.1 + 91))] := hl
  refine lv_aload_n hx hb (dk DL_turnover 0 rfl) rfl (lv_at hl 3 rfl) ?_
  refine lv_iconst (v := (0 : Int32)) hx hb (dk DL_turnover 1 rfl) (by decide) ?_
  refine lv_aload_n hx hb (dk DL_turnover 2 rfl) rfl (lv_at hl 0 rfl) ?_
  refine lv_iload_n hx hb (dk DL_turnover 3 rfl) rfl (lv_at hl 1 rfl) ?_
  refine lv_iload_n hx hb (dk DL_turnover 4 rfl) rfl (lv_at hl 2 rfl) ?_
  have hM := C_T_turnover l hl0 G a1 a2 m0 (Sum.inl 1) m1 hF
  rw [show ouI (Sum.inl 1) = (Sum.inl 1 : Ou) from rfl] at hM
  refine x_thr hR (x_runV (As := [.int a1, .int a2]) (rest := [.int (0 : Int32), .ref (G.2.1 + 91)]) C hR hM (by decide) (by decide) ob0 rfl wL_104 rfl rfl (Nat.le_of_ble_eq_true rfl) hl.1 ⟨Nat.le_refl 1, Nat.le_refl 6⟩ (dk DL_turnover 5 rfl)) (fun H locs ce q hR h3 h4 h5 => ?_)
  refine w_catch (pre := [(0, 10, 13, 24)]) (suf := []) (a := 0) (b := 10) (h := 17) (ct := 13) (k := 1) C hN htab rfl (by decide) (List.forall_mem_cons.mpr ⟨⟨by decide, 2, by decide, by decide, (gd q1126 rfl)⟩, (fun z hz => nomatch hz)⟩) rfl (by decide) (gd q781 rfl) h3 h4 h5 ?_
  refine lv_astore (lv' := [(4, .ref q), (0, .ref (G.2.1 + 0)), (1, .int a1), (2, .int a2), (3, .ref (G.2.1 + 91))]) hx hb (dk DL_turnover 12 rfl) hl (by decide) rfl (fun ls hl => ?_)
  refine lv_iconst (v := (2 : Int32)) hx hb (dk DL_turnover 13 rfl) (by decide) ?_
  exact w_ret C hrt hR rfl rfl (dk DL_turnover 14 rfl)
set_option maxRecDepth 20000 in
theorem W_line_n (l : Launch) (hl0 : l.stackTraces = false) (G : GG) (a1 : Int32) (a2 : Int32) (a3 : Bool) (a4 : Int32) (a5 : Int32) (m0 : Mem) (v : Int32) (m1 : Mem) (hF : F_T_line a1 a2 a3 a4 a5 m0 = some (.inr v, m1)) : Wt l G yL_line cL_line 8 [(0, 16, 19, 24), (0, 16, 23, 13)] 294 [.ref (G.2.1 + 0), .int a1, .int a2, .int (b2i a3), .int a4, .int a5, .ref (G.2.1 + 91)] m0 (.inr none) 0 (sL m1 91 0 v.toInt64) := by
  refine Wt_of hl0 (by decide) (Nat.le_of_ble_eq_true rfl) ?_
  intro p e s mid args below meth c ls C hN hrt htab hl hR
  have hx := C.1.1
  have hb := C.1.2.1
  have hl : lv_has ls 8 [(0, .ref (G.2.1 + 0)), (1, .int a1), (2, .int a2), (3, .int (b2i a3)), (4, .int a4), (5, .int a5), (6, .ref (G.2.1 + 91))] := hl
  refine lv_aload hx hb (dk DL_line 0 rfl) (lv_at hl 6 rfl) ?_
  refine lv_iconst (v := (0 : Int32)) hx hb (dk DL_line 1 rfl) (by decide) ?_
  refine lv_aload_n hx hb (dk DL_line 2 rfl) rfl (lv_at hl 0 rfl) ?_
  refine lv_iload_n hx hb (dk DL_line 3 rfl) rfl (lv_at hl 1 rfl) ?_
  refine lv_iload_n hx hb (dk DL_line 4 rfl) rfl (lv_at hl 2 rfl) ?_
  refine lv_iload_n hx hb (dk DL_line 5 rfl) rfl (lv_at hl 3 rfl) ?_
  refine lv_iload hx hb (dk DL_line 6 rfl) (lv_at hl 4 rfl) ?_
  refine lv_iload hx hb (dk DL_line 7 rfl) (lv_at hl 5 rfl) ?_
  have hM := C_T_line l hl0 G a1 a2 a3 a4 a5 m0 (Sum.inr v) m1 hF
  rw [show ouI (Sum.inr v) = (Sum.inr (some (.int v)) : Ou) from rfl] at hM
  refine x_callVi (As := [.int a1, .int a2, .int (b2i a3), .int a4, .int a5]) (rest := [.int (0 : Int32), .ref (G.2.1 + 91)]) C hR hM (by decide) (by decide) ob0 rfl wL_107 rfl rfl (Nat.le_of_ble_eq_true rfl) hl.1 ⟨Nat.zero_le _, Nat.zero_le _⟩ (dk DL_line 8 rfl) (fun H locs hR => ?_)
  refine lv_i2l hx hb (dk DL_line 9 rfl) rfl ?_
  refine r_last C hR ob91 rfl (dk DL_line 10 rfl) (fun H locs hR => ?_)
  refine lv_goto (tgt := 27) hx hb (dk DL_line 11 rfl) (by decide) ?_
  refine lv_iconst (v := (0 : Int32)) hx hb (dk DL_line 18 rfl) (by decide) ?_
  exact w_ret C hrt hR rfl rfl (dk DL_line 19 rfl)
set_option maxRecDepth 20000 in
theorem W_line_2 (l : Launch) (hl0 : l.stackTraces = false) (G : GG) (a1 : Int32) (a2 : Int32) (a3 : Bool) (a4 : Int32) (a5 : Int32) (m0 : Mem) (m1 : Mem) (hF : F_T_line a1 a2 a3 a4 a5 m0 = some (.inl 2, m1)) : Wt l G yL_line cL_line 8 [(0, 16, 19, 24), (0, 16, 23, 13)] 294 [.ref (G.2.1 + 0), .int a1, .int a2, .int (b2i a3), .int a4, .int a5, .ref (G.2.1 + 91)] m0 (.inl 2) 1 m1 := by
  refine Wt_of hl0 (by decide) (Nat.le_of_ble_eq_true rfl) ?_
  intro p e s mid args below meth c ls C hN hrt htab hl hR
  have hx := C.1.1
  have hb := C.1.2.1
  have hl : lv_has ls 8 [(0, .ref (G.2.1 + 0)), (1, .int a1), (2, .int a2), (3, .int (b2i a3)), (4, .int a4), (5, .int a5), (6, .ref (G.2.1 + 91))] := hl
  refine lv_aload hx hb (dk DL_line 0 rfl) (lv_at hl 6 rfl) ?_
  refine lv_iconst (v := (0 : Int32)) hx hb (dk DL_line 1 rfl) (by decide) ?_
  refine lv_aload_n hx hb (dk DL_line 2 rfl) rfl (lv_at hl 0 rfl) ?_
  refine lv_iload_n hx hb (dk DL_line 3 rfl) rfl (lv_at hl 1 rfl) ?_
  refine lv_iload_n hx hb (dk DL_line 4 rfl) rfl (lv_at hl 2 rfl) ?_
  refine lv_iload_n hx hb (dk DL_line 5 rfl) rfl (lv_at hl 3 rfl) ?_
  refine lv_iload hx hb (dk DL_line 6 rfl) (lv_at hl 4 rfl) ?_
  refine lv_iload hx hb (dk DL_line 7 rfl) (lv_at hl 5 rfl) ?_
  have hM := C_T_line l hl0 G a1 a2 a3 a4 a5 m0 (Sum.inl 2) m1 hF
  rw [show ouI (Sum.inl 2) = (Sum.inl 2 : Ou) from rfl] at hM
  refine x_thr hR (x_runV (As := [.int a1, .int a2, .int (b2i a3), .int a4, .int a5]) (rest := [.int (0 : Int32), .ref (G.2.1 + 91)]) C hR hM (by decide) (by decide) ob0 rfl wL_107 rfl rfl (Nat.le_of_ble_eq_true rfl) hl.1 ⟨Nat.le_refl 1, Nat.le_refl 6⟩ (dk DL_line 8 rfl)) (fun H locs ce q hR h3 h4 h5 => ?_)
  refine w_catch (pre := []) (suf := [(0, 16, 23, 13)]) (a := 0) (b := 16) (h := 19) (ct := 24) (k := 2) C hN htab rfl (by decide) (fun z hz => nomatch hz) rfl (by decide) (gd q1126 rfl) h3 h4 h5 ?_
  refine lv_astore (lv' := [(7, .ref q), (0, .ref (G.2.1 + 0)), (1, .int a1), (2, .int a2), (3, .int (b2i a3)), (4, .int a4), (5, .int a5), (6, .ref (G.2.1 + 91))]) hx hb (dk DL_line 12 rfl) hl (by decide) rfl (fun ls hl => ?_)
  refine lv_iconst (v := (1 : Int32)) hx hb (dk DL_line 13 rfl) (by decide) ?_
  exact w_ret C hrt hR rfl rfl (dk DL_line 14 rfl)
set_option maxRecDepth 20000 in
theorem W_line_1 (l : Launch) (hl0 : l.stackTraces = false) (G : GG) (a1 : Int32) (a2 : Int32) (a3 : Bool) (a4 : Int32) (a5 : Int32) (m0 : Mem) (m1 : Mem) (hF : F_T_line a1 a2 a3 a4 a5 m0 = some (.inl 1, m1)) : Wt l G yL_line cL_line 8 [(0, 16, 19, 24), (0, 16, 23, 13)] 294 [.ref (G.2.1 + 0), .int a1, .int a2, .int (b2i a3), .int a4, .int a5, .ref (G.2.1 + 91)] m0 (.inl 1) 2 m1 := by
  refine Wt_of hl0 (by decide) (Nat.le_of_ble_eq_true rfl) ?_
  intro p e s mid args below meth c ls C hN hrt htab hl hR
  have hx := C.1.1
  have hb := C.1.2.1
  have hl : lv_has ls 8 [(0, .ref (G.2.1 + 0)), (1, .int a1), (2, .int a2), (3, .int (b2i a3)), (4, .int a4), (5, .int a5), (6, .ref (G.2.1 + 91))] := hl
  refine lv_aload hx hb (dk DL_line 0 rfl) (lv_at hl 6 rfl) ?_
  refine lv_iconst (v := (0 : Int32)) hx hb (dk DL_line 1 rfl) (by decide) ?_
  refine lv_aload_n hx hb (dk DL_line 2 rfl) rfl (lv_at hl 0 rfl) ?_
  refine lv_iload_n hx hb (dk DL_line 3 rfl) rfl (lv_at hl 1 rfl) ?_
  refine lv_iload_n hx hb (dk DL_line 4 rfl) rfl (lv_at hl 2 rfl) ?_
  refine lv_iload_n hx hb (dk DL_line 5 rfl) rfl (lv_at hl 3 rfl) ?_
  refine lv_iload hx hb (dk DL_line 6 rfl) (lv_at hl 4 rfl) ?_
  refine lv_iload hx hb (dk DL_line 7 rfl) (lv_at hl 5 rfl) ?_
  have hM := C_T_line l hl0 G a1 a2 a3 a4 a5 m0 (Sum.inl 1) m1 hF
  rw [show ouI (Sum.inl 1) = (Sum.inl 1 : Ou) from rfl] at hM
  refine x_thr hR (x_runV (As := [.int a1, .int a2, .int (b2i a3), .int a4, .int a5]) (rest := [.int (0 : Int32), .ref (G.2.1 + 91)]) C hR hM (by decide) (by decide) ob0 rfl wL_107 rfl rfl (Nat.le_of_ble_eq_true rfl) hl.1 ⟨Nat.le_refl 1, Nat.le_refl 6⟩ (dk DL_line 8 rfl)) (fun H locs ce q hR h3 h4 h5 => ?_)
  refine w_catch (pre := [(0, 16, 19, 24)]) (suf := []) (a := 0) (b := 16) (h := 23) (ct := 13) (k := 1) C hN htab rfl (by decide) (List.forall_mem_cons.mpr ⟨⟨by decide, 2, by decide, by decide, (gd q1126 rfl)⟩, (fun z hz => nomatch hz)⟩) rfl (by decide) (gd q781 rfl) h3 h4 h5 ?_
  refine lv_astore (lv' := [(7, .ref q), (0, .ref (G.2.1 + 0)), (1, .int a1), (2, .int a2), (3, .int (b2i a3)), (4, .int a4), (5, .int a5), (6, .ref (G.2.1 + 91))]) hx hb (dk DL_line 15 rfl) hl (by decide) rfl (fun ls hl => ?_)
  refine lv_iconst (v := (2 : Int32)) hx hb (dk DL_line 16 rfl) (by decide) ?_
  exact w_ret C hrt hR rfl rfl (dk DL_line 17 rfl)
set_option maxRecDepth 20000 in
theorem W_cost_n (l : Launch) (hl0 : l.stackTraces = false) (G : GG) (a1 : Int32) (m0 : Mem) (v : Int64) (m1 : Mem) (hF : F_T_cost a1 m0 = some (.inr v, m1)) : Wt l G yL_cost cL_cost 4 [(0, 8, 11, 13), (0, 8, 14, 47)] 293 [.ref (G.2.1 + 0), .int a1, .ref (G.2.1 + 91)] m0 (.inr none) 0 (sL m1 91 0 v) := by
  refine Wt_of hl0 (by decide) (Nat.le_of_ble_eq_true rfl) ?_
  intro p e s mid args below meth c ls C hN hrt htab hl hR
  have hx := C.1.1
  have hb := C.1.2.1
  have hl : lv_has ls 4 [(0, .ref (G.2.1 + 0)), (1, .int a1), (2, .ref (G.2.1 + 91))] := hl
  refine lv_aload_n hx hb (dk DL_cost 0 rfl) rfl (lv_at hl 2 rfl) ?_
  refine lv_iconst (v := (0 : Int32)) hx hb (dk DL_cost 1 rfl) (by decide) ?_
  refine lv_aload_n hx hb (dk DL_cost 2 rfl) rfl (lv_at hl 0 rfl) ?_
  refine lv_iload_n hx hb (dk DL_cost 3 rfl) rfl (lv_at hl 1 rfl) ?_
  have hM := C_T_cost l hl0 G a1 m0 (Sum.inr v) m1 hF
  rw [show ouL (Sum.inr v) = (Sum.inr (some (.long v)) : Ou) from rfl] at hM
  refine x_callVl (As := [.int a1]) (rest := [.int (0 : Int32), .ref (G.2.1 + 91)]) C hR hM (by decide) (by decide) ob0 rfl wL_111 rfl rfl (Nat.le_of_ble_eq_true rfl) hl.1 ⟨Nat.zero_le _, Nat.zero_le _⟩ (dk DL_cost 4 rfl) (fun H locs hR => ?_)
  refine r_last C hR ob91 rfl (dk DL_cost 5 rfl) (fun H locs hR => ?_)
  refine lv_goto (tgt := 17) hx hb (dk DL_cost 6 rfl) (by decide) ?_
  refine lv_iconst (v := (0 : Int32)) hx hb (dk DL_cost 13 rfl) (by decide) ?_
  exact w_ret C hrt hR rfl rfl (dk DL_cost 14 rfl)
set_option maxRecDepth 20000 in
theorem W_cost_1 (l : Launch) (hl0 : l.stackTraces = false) (G : GG) (a1 : Int32) (m0 : Mem) (m1 : Mem) (hF : F_T_cost a1 m0 = some (.inl 1, m1)) : Wt l G yL_cost cL_cost 4 [(0, 8, 11, 13), (0, 8, 14, 47)] 293 [.ref (G.2.1 + 0), .int a1, .ref (G.2.1 + 91)] m0 (.inl 1) 1 m1 := by
  refine Wt_of hl0 (by decide) (Nat.le_of_ble_eq_true rfl) ?_
  intro p e s mid args below meth c ls C hN hrt htab hl hR
  have hx := C.1.1
  have hb := C.1.2.1
  have hl : lv_has ls 4 [(0, .ref (G.2.1 + 0)), (1, .int a1), (2, .ref (G.2.1 + 91))] := hl
  refine lv_aload_n hx hb (dk DL_cost 0 rfl) rfl (lv_at hl 2 rfl) ?_
  refine lv_iconst (v := (0 : Int32)) hx hb (dk DL_cost 1 rfl) (by decide) ?_
  refine lv_aload_n hx hb (dk DL_cost 2 rfl) rfl (lv_at hl 0 rfl) ?_
  refine lv_iload_n hx hb (dk DL_cost 3 rfl) rfl (lv_at hl 1 rfl) ?_
  have hM := C_T_cost l hl0 G a1 m0 (Sum.inl 1) m1 hF
  rw [show ouL (Sum.inl 1) = (Sum.inl 1 : Ou) from rfl] at hM
  refine x_thr hR (x_runV (As := [.int a1]) (rest := [.int (0 : Int32), .ref (G.2.1 + 91)]) C hR hM (by decide) (by decide) ob0 rfl wL_111 rfl rfl (Nat.le_of_ble_eq_true rfl) hl.1 ⟨Nat.le_refl 1, Nat.le_refl 6⟩ (dk DL_cost 4 rfl)) (fun H locs ce q hR h3 h4 h5 => ?_)
  refine w_catch (pre := []) (suf := [(0, 8, 14, 47)]) (a := 0) (b := 8) (h := 11) (ct := 13) (k := 1) C hN htab rfl (by decide) (fun z hz => nomatch hz) rfl (by decide) (gd q781 rfl) h3 h4 h5 ?_
  refine lv_astore_n (lv' := [(3, .ref q), (0, .ref (G.2.1 + 0)), (1, .int a1), (2, .ref (G.2.1 + 91))]) hx hb (dk DL_cost 7 rfl) rfl hl (by decide) rfl (fun ls hl => ?_)
  refine lv_iconst (v := (1 : Int32)) hx hb (dk DL_cost 8 rfl) (by decide) ?_
  exact w_ret C hrt hR rfl rfl (dk DL_cost 9 rfl)
set_option maxRecDepth 20000 in
theorem W_cost_0 (l : Launch) (hl0 : l.stackTraces = false) (G : GG) (a1 : Int32) (m0 : Mem) (m1 : Mem) (hF : F_T_cost a1 m0 = some (.inl 0, m1)) : Wt l G yL_cost cL_cost 4 [(0, 8, 11, 13), (0, 8, 14, 47)] 293 [.ref (G.2.1 + 0), .int a1, .ref (G.2.1 + 91)] m0 (.inl 0) 2 m1 := by
  refine Wt_of hl0 (by decide) (Nat.le_of_ble_eq_true rfl) ?_
  intro p e s mid args below meth c ls C hN hrt htab hl hR
  have hx := C.1.1
  have hb := C.1.2.1
  have hl : lv_has ls 4 [(0, .ref (G.2.1 + 0)), (1, .int a1), (2, .ref (G.2.1 + 91))] := hl
  refine lv_aload_n hx hb (dk DL_cost 0 rfl) rfl (lv_at hl 2 rfl) ?_
  refine lv_iconst (v := (0 : Int32)) hx hb (dk DL_cost 1 rfl) (by decide) ?_
  refine lv_aload_n hx hb (dk DL_cost 2 rfl) rfl (lv_at hl 0 rfl) ?_
  refine lv_iload_n hx hb (dk DL_cost 3 rfl) rfl (lv_at hl 1 rfl) ?_
  have hM := C_T_cost l hl0 G a1 m0 (Sum.inl 0) m1 hF
  rw [show ouL (Sum.inl 0) = (Sum.inl 0 : Ou) from rfl] at hM
  refine x_thr hR (x_runV (As := [.int a1]) (rest := [.int (0 : Int32), .ref (G.2.1 + 91)]) C hR hM (by decide) (by decide) ob0 rfl wL_111 rfl rfl (Nat.le_of_ble_eq_true rfl) hl.1 ⟨Nat.le_refl 1, Nat.le_refl 6⟩ (dk DL_cost 4 rfl)) (fun H locs ce q hR h3 h4 h5 => ?_)
  refine w_catch (pre := [(0, 8, 11, 13)]) (suf := []) (a := 0) (b := 8) (h := 14) (ct := 47) (k := 0) C hN htab rfl (by decide) (List.forall_mem_cons.mpr ⟨⟨by decide, 1, by decide, by decide, (gd q781 rfl)⟩, (fun z hz => nomatch hz)⟩) rfl (by decide) (gd q1234 rfl) h3 h4 h5 ?_
  refine lv_astore_n (lv' := [(3, .ref q), (0, .ref (G.2.1 + 0)), (1, .int a1), (2, .ref (G.2.1 + 91))]) hx hb (dk DL_cost 10 rfl) rfl hl (by decide) rfl (fun ls hl => ?_)
  refine lv_iconst (v := (2 : Int32)) hx hb (dk DL_cost 11 rfl) (by decide) ?_
  exact w_ret C hrt hR rfl rfl (dk DL_cost 12 rfl)
set_option maxRecDepth 20000 in
theorem W_swing_n (l : Launch) (hl0 : l.stackTraces = false) (G : GG)  (m0 : Mem) (v : Int32) (m1 : Mem) (hF : F_T_swing m0 = some (.inr v, m1)) : Wt l G yL_swing cL_swing 3 [(0, 8, 11, 47), (0, 8, 14, 13)] 10 [.ref (G.2.1 + 0), .ref (G.2.1 + 91)] m0 (.inr none) 0 (sL m1 91 0 v.toInt64) := by
  refine Wt_of hl0 (by decide) (Nat.le_of_ble_eq_true rfl) ?_
  intro p e s mid args below meth c ls C hN hrt htab hl hR
  have hx := C.1.1
  have hb := C.1.2.1
  have hl : lv_has ls 3 [(0, .ref (G.2.1 + 0)), (1, .ref (G.2.1 + 91))] := hl
  refine lv_aload_n hx hb (dk DL_swing 0 rfl) rfl (lv_at hl 1 rfl) ?_
  refine lv_iconst (v := (0 : Int32)) hx hb (dk DL_swing 1 rfl) (by decide) ?_
  refine lv_aload_n hx hb (dk DL_swing 2 rfl) rfl (lv_at hl 0 rfl) ?_
  have hM := C_T_swing l hl0 G  m0 (Sum.inr v) m1 hF
  rw [show ouI (Sum.inr v) = (Sum.inr (some (.int v)) : Ou) from rfl] at hM
  refine x_callVi (As := []) (rest := [.int (0 : Int32), .ref (G.2.1 + 91)]) C hR hM (by decide) (by decide) ob0 rfl wL_114 rfl rfl (Nat.le_of_ble_eq_true rfl) hl.1 ⟨Nat.zero_le _, Nat.zero_le _⟩ (dk DL_swing 3 rfl) (fun H locs hR => ?_)
  refine lv_i2l hx hb (dk DL_swing 4 rfl) rfl ?_
  refine r_last C hR ob91 rfl (dk DL_swing 5 rfl) (fun H locs hR => ?_)
  refine lv_goto (tgt := 17) hx hb (dk DL_swing 6 rfl) (by decide) ?_
  refine lv_iconst (v := (0 : Int32)) hx hb (dk DL_swing 13 rfl) (by decide) ?_
  exact w_ret C hrt hR rfl rfl (dk DL_swing 14 rfl)
set_option maxRecDepth 20000 in
theorem W_swing_0 (l : Launch) (hl0 : l.stackTraces = false) (G : GG)  (m0 : Mem) (m1 : Mem) (hF : F_T_swing m0 = some (.inl 0, m1)) : Wt l G yL_swing cL_swing 3 [(0, 8, 11, 47), (0, 8, 14, 13)] 10 [.ref (G.2.1 + 0), .ref (G.2.1 + 91)] m0 (.inl 0) 1 m1 := by
  refine Wt_of hl0 (by decide) (Nat.le_of_ble_eq_true rfl) ?_
  intro p e s mid args below meth c ls C hN hrt htab hl hR
  have hx := C.1.1
  have hb := C.1.2.1
  have hl : lv_has ls 3 [(0, .ref (G.2.1 + 0)), (1, .ref (G.2.1 + 91))] := hl
  refine lv_aload_n hx hb (dk DL_swing 0 rfl) rfl (lv_at hl 1 rfl) ?_
  refine lv_iconst (v := (0 : Int32)) hx hb (dk DL_swing 1 rfl) (by decide) ?_
  refine lv_aload_n hx hb (dk DL_swing 2 rfl) rfl (lv_at hl 0 rfl) ?_
  have hM := C_T_swing l hl0 G  m0 (Sum.inl 0) m1 hF
  rw [show ouI (Sum.inl 0) = (Sum.inl 0 : Ou) from rfl] at hM
  refine x_thr hR (x_runV (As := []) (rest := [.int (0 : Int32), .ref (G.2.1 + 91)]) C hR hM (by decide) (by decide) ob0 rfl wL_114 rfl rfl (Nat.le_of_ble_eq_true rfl) hl.1 ⟨Nat.le_refl 1, Nat.le_refl 6⟩ (dk DL_swing 3 rfl)) (fun H locs ce q hR h3 h4 h5 => ?_)
  refine w_catch (pre := []) (suf := [(0, 8, 14, 13)]) (a := 0) (b := 8) (h := 11) (ct := 47) (k := 0) C hN htab rfl (by decide) (fun z hz => nomatch hz) rfl (by decide) (gd q1234 rfl) h3 h4 h5 ?_
  refine lv_astore_n (lv' := [(2, .ref q), (0, .ref (G.2.1 + 0)), (1, .ref (G.2.1 + 91))]) hx hb (dk DL_swing 7 rfl) rfl hl (by decide) rfl (fun ls hl => ?_)
  refine lv_iconst (v := (1 : Int32)) hx hb (dk DL_swing 8 rfl) (by decide) ?_
  exact w_ret C hrt hR rfl rfl (dk DL_swing 9 rfl)
set_option maxRecDepth 20000 in
theorem W_swing_1 (l : Launch) (hl0 : l.stackTraces = false) (G : GG)  (m0 : Mem) (m1 : Mem) (hF : F_T_swing m0 = some (.inl 1, m1)) : Wt l G yL_swing cL_swing 3 [(0, 8, 11, 47), (0, 8, 14, 13)] 10 [.ref (G.2.1 + 0), .ref (G.2.1 + 91)] m0 (.inl 1) 2 m1 := by
  refine Wt_of hl0 (by decide) (Nat.le_of_ble_eq_true rfl) ?_
  intro p e s mid args below meth c ls C hN hrt htab hl hR
  have hx := C.1.1
  have hb := C.1.2.1
  have hl : lv_has ls 3 [(0, .ref (G.2.1 + 0)), (1, .ref (G.2.1 + 91))] := hl
  refine lv_aload_n hx hb (dk DL_swing 0 rfl) rfl (lv_at hl 1 rfl) ?_
  refine lv_iconst (v := (0 : Int32)) hx hb (dk DL_swing 1 rfl) (by decide) ?_
  refine lv_aload_n hx hb (dk DL_swing 2 rfl) rfl (lv_at hl 0 rfl) ?_
  have hM := C_T_swing l hl0 G  m0 (Sum.inl 1) m1 hF
  rw [show ouI (Sum.inl 1) = (Sum.inl 1 : Ou) from rfl] at hM
  refine x_thr hR (x_runV (As := []) (rest := [.int (0 : Int32), .ref (G.2.1 + 91)]) C hR hM (by decide) (by decide) ob0 rfl wL_114 rfl rfl (Nat.le_of_ble_eq_true rfl) hl.1 ⟨Nat.le_refl 1, Nat.le_refl 6⟩ (dk DL_swing 3 rfl)) (fun H locs ce q hR h3 h4 h5 => ?_)
  refine w_catch (pre := [(0, 8, 11, 47)]) (suf := []) (a := 0) (b := 8) (h := 14) (ct := 13) (k := 1) C hN htab rfl (by decide) (List.forall_mem_cons.mpr ⟨⟨by decide, 0, by decide, by decide, (gd q1234 rfl)⟩, (fun z hz => nomatch hz)⟩) rfl (by decide) (gd q781 rfl) h3 h4 h5 ?_
  refine lv_astore_n (lv' := [(2, .ref q), (0, .ref (G.2.1 + 0)), (1, .ref (G.2.1 + 91))]) hx hb (dk DL_swing 10 rfl) rfl hl (by decide) rfl (fun ls hl => ?_)
  refine lv_iconst (v := (2 : Int32)) hx hb (dk DL_swing 11 rfl) (by decide) ?_
  exact w_ret C hrt hR rfl rfl (dk DL_swing 12 rfl)
set_option maxRecDepth 20000 in
theorem W_book_n (l : Launch) (hl0 : l.stackTraces = false) (G : GG) (a1 : Int32) (m0 : Mem) (v : Int32) (m1 : Mem) (hF : F_T_book a1 m0 = some (.inr v, m1)) : Wt l G yL_book cL_book 4 [(0, 9, 12, 34)] 9 [.ref (G.2.1 + 0), .int a1, .ref (G.2.1 + 91)] m0 (.inr none) 0 (sL m1 91 0 v.toInt64) := by
  refine Wt_of hl0 (by decide) (Nat.le_of_ble_eq_true rfl) ?_
  intro p e s mid args below meth c ls C hN hrt htab hl hR
  have hx := C.1.1
  have hb := C.1.2.1
  have hl : lv_has ls 4 [(0, .ref (G.2.1 + 0)), (1, .int a1), (2, .ref (G.2.1 + 91))] := hl
  refine lv_aload_n hx hb (dk DL_book 0 rfl) rfl (lv_at hl 2 rfl) ?_
  refine lv_iconst (v := (0 : Int32)) hx hb (dk DL_book 1 rfl) (by decide) ?_
  refine lv_aload_n hx hb (dk DL_book 2 rfl) rfl (lv_at hl 0 rfl) ?_
  refine lv_iload_n hx hb (dk DL_book 3 rfl) rfl (lv_at hl 1 rfl) ?_
  have hM := C_T_book l hl0 G a1 m0 (Sum.inr v) m1 hF
  rw [show ouI (Sum.inr v) = (Sum.inr (some (.int v)) : Ou) from rfl] at hM
  refine x_callVi (As := [.int a1]) (rest := [.int (0 : Int32), .ref (G.2.1 + 91)]) C hR hM (by decide) (by decide) ob0 rfl wL_117 rfl rfl (Nat.le_of_ble_eq_true rfl) hl.1 ⟨Nat.zero_le _, Nat.zero_le _⟩ (dk DL_book 4 rfl) (fun H locs hR => ?_)
  refine lv_i2l hx hb (dk DL_book 5 rfl) rfl ?_
  refine r_last C hR ob91 rfl (dk DL_book 6 rfl) (fun H locs hR => ?_)
  refine lv_goto (tgt := 15) hx hb (dk DL_book 7 rfl) (by decide) ?_
  refine lv_iconst (v := (0 : Int32)) hx hb (dk DL_book 11 rfl) (by decide) ?_
  exact w_ret C hrt hR rfl rfl (dk DL_book 12 rfl)
set_option maxRecDepth 20000 in
theorem W_book_4 (l : Launch) (hl0 : l.stackTraces = false) (G : GG) (a1 : Int32) (m0 : Mem) (m1 : Mem) (hF : F_T_book a1 m0 = some (.inl 4, m1)) : Wt l G yL_book cL_book 4 [(0, 9, 12, 34)] 9 [.ref (G.2.1 + 0), .int a1, .ref (G.2.1 + 91)] m0 (.inl 4) 1 m1 := by
  refine Wt_of hl0 (by decide) (Nat.le_of_ble_eq_true rfl) ?_
  intro p e s mid args below meth c ls C hN hrt htab hl hR
  have hx := C.1.1
  have hb := C.1.2.1
  have hl : lv_has ls 4 [(0, .ref (G.2.1 + 0)), (1, .int a1), (2, .ref (G.2.1 + 91))] := hl
  refine lv_aload_n hx hb (dk DL_book 0 rfl) rfl (lv_at hl 2 rfl) ?_
  refine lv_iconst (v := (0 : Int32)) hx hb (dk DL_book 1 rfl) (by decide) ?_
  refine lv_aload_n hx hb (dk DL_book 2 rfl) rfl (lv_at hl 0 rfl) ?_
  refine lv_iload_n hx hb (dk DL_book 3 rfl) rfl (lv_at hl 1 rfl) ?_
  have hM := C_T_book l hl0 G a1 m0 (Sum.inl 4) m1 hF
  rw [show ouI (Sum.inl 4) = (Sum.inl 4 : Ou) from rfl] at hM
  refine x_thr hR (x_runV (As := [.int a1]) (rest := [.int (0 : Int32), .ref (G.2.1 + 91)]) C hR hM (by decide) (by decide) ob0 rfl wL_117 rfl rfl (Nat.le_of_ble_eq_true rfl) hl.1 ⟨Nat.le_refl 1, Nat.le_refl 6⟩ (dk DL_book 4 rfl)) (fun H locs ce q hR h3 h4 h5 => ?_)
  refine w_catch (pre := []) (suf := []) (a := 0) (b := 9) (h := 12) (ct := 34) (k := 4) C hN htab rfl (by decide) (fun z hz => nomatch hz) rfl (by decide) (gd q1165 rfl) h3 h4 h5 ?_
  refine lv_astore_n (lv' := [(3, .ref q), (0, .ref (G.2.1 + 0)), (1, .int a1), (2, .ref (G.2.1 + 91))]) hx hb (dk DL_book 8 rfl) rfl hl (by decide) rfl (fun ls hl => ?_)
  refine lv_iconst (v := (1 : Int32)) hx hb (dk DL_book 9 rfl) (by decide) ?_
  exact w_ret C hrt hR rfl rfl (dk DL_book 10 rfl)
set_option maxRecDepth 20000 in
theorem W_share_n (l : Launch) (hl0 : l.stackTraces = false) (G : GG) (a1 : Int32) (a2 : Int32) (m0 : Mem) (v : Int32) (m1 : Mem) (hF : F_T_share a1 a2 m0 = some (.inr v, m1)) : Wt l G yL_share cL_share 5 [(0, 10, 13, 34)] 9 [.ref (G.2.1 + 0), .int a1, .int a2, .ref (G.2.1 + 91)] m0 (.inr none) 0 (sL m1 91 0 v.toInt64) := by
  refine Wt_of hl0 (by decide) (Nat.le_of_ble_eq_true rfl) ?_
  intro p e s mid args below meth c ls C hN hrt htab hl hR
  have hx := C.1.1
  have hb := C.1.2.1
  have hl : lv_has ls 5 [(0, .ref (G.2.1 + 0)), (1, .int a1), (2, .int a2), (3, .ref (G.2.1 + 91))] := hl
  refine lv_aload_n hx hb (dk DL_share 0 rfl) rfl (lv_at hl 3 rfl) ?_
  refine lv_iconst (v := (0 : Int32)) hx hb (dk DL_share 1 rfl) (by decide) ?_
  refine lv_aload_n hx hb (dk DL_share 2 rfl) rfl (lv_at hl 0 rfl) ?_
  refine lv_iload_n hx hb (dk DL_share 3 rfl) rfl (lv_at hl 1 rfl) ?_
  refine lv_iload_n hx hb (dk DL_share 4 rfl) rfl (lv_at hl 2 rfl) ?_
  have hM := C_T_share l hl0 G a1 a2 m0 (Sum.inr v) m1 hF
  rw [show ouI (Sum.inr v) = (Sum.inr (some (.int v)) : Ou) from rfl] at hM
  refine x_callVi (As := [.int a1, .int a2]) (rest := [.int (0 : Int32), .ref (G.2.1 + 91)]) C hR hM (by decide) (by decide) ob0 rfl wL_120 rfl rfl (Nat.le_of_ble_eq_true rfl) hl.1 ⟨Nat.zero_le _, Nat.zero_le _⟩ (dk DL_share 5 rfl) (fun H locs hR => ?_)
  refine lv_i2l hx hb (dk DL_share 6 rfl) rfl ?_
  refine r_last C hR ob91 rfl (dk DL_share 7 rfl) (fun H locs hR => ?_)
  refine lv_goto (tgt := 17) hx hb (dk DL_share 8 rfl) (by decide) ?_
  refine lv_iconst (v := (0 : Int32)) hx hb (dk DL_share 12 rfl) (by decide) ?_
  exact w_ret C hrt hR rfl rfl (dk DL_share 13 rfl)
set_option maxRecDepth 20000 in
theorem W_share_4 (l : Launch) (hl0 : l.stackTraces = false) (G : GG) (a1 : Int32) (a2 : Int32) (m0 : Mem) (m1 : Mem) (hF : F_T_share a1 a2 m0 = some (.inl 4, m1)) : Wt l G yL_share cL_share 5 [(0, 10, 13, 34)] 9 [.ref (G.2.1 + 0), .int a1, .int a2, .ref (G.2.1 + 91)] m0 (.inl 4) 1 m1 := by
  refine Wt_of hl0 (by decide) (Nat.le_of_ble_eq_true rfl) ?_
  intro p e s mid args below meth c ls C hN hrt htab hl hR
  have hx := C.1.1
  have hb := C.1.2.1
  have hl : lv_has ls 5 [(0, .ref (G.2.1 + 0)), (1, .int a1), (2, .int a2), (3, .ref (G.2.1 + 91))] := hl
  refine lv_aload_n hx hb (dk DL_share 0 rfl) rfl (lv_at hl 3 rfl) ?_
  refine lv_iconst (v := (0 : Int32)) hx hb (dk DL_share 1 rfl) (by decide) ?_
  refine lv_aload_n hx hb (dk DL_share 2 rfl) rfl (lv_at hl 0 rfl) ?_
  refine lv_iload_n hx hb (dk DL_share 3 rfl) rfl (lv_at hl 1 rfl) ?_
  refine lv_iload_n hx hb (dk DL_share 4 rfl) rfl (lv_at hl 2 rfl) ?_
  have hM := C_T_share l hl0 G a1 a2 m0 (Sum.inl 4) m1 hF
  rw [show ouI (Sum.inl 4) = (Sum.inl 4 : Ou) from rfl] at hM
  refine x_thr hR (x_runV (As := [.int a1, .int a2]) (rest := [.int (0 : Int32), .ref (G.2.1 + 91)]) C hR hM (by decide) (by decide) ob0 rfl wL_120 rfl rfl (Nat.le_of_ble_eq_true rfl) hl.1 ⟨Nat.le_refl 1, Nat.le_refl 6⟩ (dk DL_share 5 rfl)) (fun H locs ce q hR h3 h4 h5 => ?_)
  refine w_catch (pre := []) (suf := []) (a := 0) (b := 10) (h := 13) (ct := 34) (k := 4) C hN htab rfl (by decide) (fun z hz => nomatch hz) rfl (by decide) (gd q1165 rfl) h3 h4 h5 ?_
  refine lv_astore (lv' := [(4, .ref q), (0, .ref (G.2.1 + 0)), (1, .int a1), (2, .int a2), (3, .ref (G.2.1 + 91))]) hx hb (dk DL_share 9 rfl) hl (by decide) rfl (fun ls hl => ?_)
  refine lv_iconst (v := (1 : Int32)) hx hb (dk DL_share 10 rfl) (by decide) ?_
  exact w_ret C hrt hR rfl rfl (dk DL_share 11 rfl)
set_option maxRecDepth 20000 in
theorem W_signs_n (l : Launch) (hl0 : l.stackTraces = false) (G : GG) (a1 : Int32) (a2 : Int32) (a3 : Bool) (m0 : Mem) (v : Int32) (m1 : Mem) (hF : F_T_signs a1 a2 a3 m0 = some (.inr v, m1)) : Wt l G yL_signs cL_signs 6 [(0, 12, 15, 13)] 9 [.ref (G.2.1 + 0), .int a1, .int a2, .int (b2i a3), .ref (G.2.1 + 91)] m0 (.inr none) 0 (sL m1 91 0 v.toInt64) := by
  refine Wt_of hl0 (by decide) (Nat.le_of_ble_eq_true rfl) ?_
  intro p e s mid args below meth c ls C hN hrt htab hl hR
  have hx := C.1.1
  have hb := C.1.2.1
  have hl : lv_has ls 6 [(0, .ref (G.2.1 + 0)), (1, .int a1), (2, .int a2), (3, .int (b2i a3)), (4, .ref (G.2.1 + 91))] := hl
  refine lv_aload hx hb (dk DL_signs 0 rfl) (lv_at hl 4 rfl) ?_
  refine lv_iconst (v := (0 : Int32)) hx hb (dk DL_signs 1 rfl) (by decide) ?_
  refine lv_aload_n hx hb (dk DL_signs 2 rfl) rfl (lv_at hl 0 rfl) ?_
  refine lv_iload_n hx hb (dk DL_signs 3 rfl) rfl (lv_at hl 1 rfl) ?_
  refine lv_iload_n hx hb (dk DL_signs 4 rfl) rfl (lv_at hl 2 rfl) ?_
  refine lv_iload_n hx hb (dk DL_signs 5 rfl) rfl (lv_at hl 3 rfl) ?_
  have hM := C_T_signs l hl0 G a1 a2 a3 m0 (Sum.inr v) m1 hF
  rw [show ouI (Sum.inr v) = (Sum.inr (some (.int v)) : Ou) from rfl] at hM
  refine x_callVi (As := [.int a1, .int a2, .int (b2i a3)]) (rest := [.int (0 : Int32), .ref (G.2.1 + 91)]) C hR hM (by decide) (by decide) ob0 rfl wL_123 rfl rfl (Nat.le_of_ble_eq_true rfl) hl.1 ⟨Nat.zero_le _, Nat.zero_le _⟩ (dk DL_signs 6 rfl) (fun H locs hR => ?_)
  refine lv_i2l hx hb (dk DL_signs 7 rfl) rfl ?_
  refine r_last C hR ob91 rfl (dk DL_signs 8 rfl) (fun H locs hR => ?_)
  refine lv_goto (tgt := 19) hx hb (dk DL_signs 9 rfl) (by decide) ?_
  refine lv_iconst (v := (0 : Int32)) hx hb (dk DL_signs 13 rfl) (by decide) ?_
  exact w_ret C hrt hR rfl rfl (dk DL_signs 14 rfl)
set_option maxRecDepth 20000 in
theorem W_signs_1 (l : Launch) (hl0 : l.stackTraces = false) (G : GG) (a1 : Int32) (a2 : Int32) (a3 : Bool) (m0 : Mem) (m1 : Mem) (hF : F_T_signs a1 a2 a3 m0 = some (.inl 1, m1)) : Wt l G yL_signs cL_signs 6 [(0, 12, 15, 13)] 9 [.ref (G.2.1 + 0), .int a1, .int a2, .int (b2i a3), .ref (G.2.1 + 91)] m0 (.inl 1) 1 m1 := by
  refine Wt_of hl0 (by decide) (Nat.le_of_ble_eq_true rfl) ?_
  intro p e s mid args below meth c ls C hN hrt htab hl hR
  have hx := C.1.1
  have hb := C.1.2.1
  have hl : lv_has ls 6 [(0, .ref (G.2.1 + 0)), (1, .int a1), (2, .int a2), (3, .int (b2i a3)), (4, .ref (G.2.1 + 91))] := hl
  refine lv_aload hx hb (dk DL_signs 0 rfl) (lv_at hl 4 rfl) ?_
  refine lv_iconst (v := (0 : Int32)) hx hb (dk DL_signs 1 rfl) (by decide) ?_
  refine lv_aload_n hx hb (dk DL_signs 2 rfl) rfl (lv_at hl 0 rfl) ?_
  refine lv_iload_n hx hb (dk DL_signs 3 rfl) rfl (lv_at hl 1 rfl) ?_
  refine lv_iload_n hx hb (dk DL_signs 4 rfl) rfl (lv_at hl 2 rfl) ?_
  refine lv_iload_n hx hb (dk DL_signs 5 rfl) rfl (lv_at hl 3 rfl) ?_
  have hM := C_T_signs l hl0 G a1 a2 a3 m0 (Sum.inl 1) m1 hF
  rw [show ouI (Sum.inl 1) = (Sum.inl 1 : Ou) from rfl] at hM
  refine x_thr hR (x_runV (As := [.int a1, .int a2, .int (b2i a3)]) (rest := [.int (0 : Int32), .ref (G.2.1 + 91)]) C hR hM (by decide) (by decide) ob0 rfl wL_123 rfl rfl (Nat.le_of_ble_eq_true rfl) hl.1 ⟨Nat.le_refl 1, Nat.le_refl 6⟩ (dk DL_signs 6 rfl)) (fun H locs ce q hR h3 h4 h5 => ?_)
  refine w_catch (pre := []) (suf := []) (a := 0) (b := 12) (h := 15) (ct := 13) (k := 1) C hN htab rfl (by decide) (fun z hz => nomatch hz) rfl (by decide) (gd q781 rfl) h3 h4 h5 ?_
  refine lv_astore (lv' := [(5, .ref q), (0, .ref (G.2.1 + 0)), (1, .int a1), (2, .int a2), (3, .int (b2i a3)), (4, .ref (G.2.1 + 91))]) hx hb (dk DL_signs 10 rfl) hl (by decide) rfl (fun ls hl => ?_)
  refine lv_iconst (v := (1 : Int32)) hx hb (dk DL_signs 11 rfl) (by decide) ?_
  exact w_ret C hrt hR rfl rfl (dk DL_signs 12 rfl)
set_option maxRecDepth 20000 in
theorem W_best_n (l : Launch) (hl0 : l.stackTraces = false) (G : GG) (a1 : Bool) (a2 : Bool) (m0 : Mem) (v : Int32) (m1 : Mem) (hF : F_T_best a1 a2 m0 = some (.inr v, m1)) : Wt l G yL_best cL_best 5 [(0, 10, 13, 13)] 9 [.ref (G.2.1 + 0), .int (b2i a1), .int (b2i a2), .ref (G.2.1 + 91)] m0 (.inr none) 0 (sL m1 91 0 v.toInt64) := by
  refine Wt_of hl0 (by decide) (Nat.le_of_ble_eq_true rfl) ?_
  intro p e s mid args below meth c ls C hN hrt htab hl hR
  have hx := C.1.1
  have hb := C.1.2.1
  have hl : lv_has ls 5 [(0, .ref (G.2.1 + 0)), (1, .int (b2i a1)), (2, .int (b2i a2)), (3, .ref (G.2.1 + 91))] := hl
  refine lv_aload_n hx hb (dk DL_best 0 rfl) rfl (lv_at hl 3 rfl) ?_
  refine lv_iconst (v := (0 : Int32)) hx hb (dk DL_best 1 rfl) (by decide) ?_
  refine lv_aload_n hx hb (dk DL_best 2 rfl) rfl (lv_at hl 0 rfl) ?_
  refine lv_iload_n hx hb (dk DL_best 3 rfl) rfl (lv_at hl 1 rfl) ?_
  refine lv_iload_n hx hb (dk DL_best 4 rfl) rfl (lv_at hl 2 rfl) ?_
  have hM := C_T_best l hl0 G a1 a2 m0 (Sum.inr v) m1 hF
  rw [show ouI (Sum.inr v) = (Sum.inr (some (.int v)) : Ou) from rfl] at hM
  refine x_callVi (As := [.int (b2i a1), .int (b2i a2)]) (rest := [.int (0 : Int32), .ref (G.2.1 + 91)]) C hR hM (by decide) (by decide) ob0 rfl wL_126 rfl rfl (Nat.le_of_ble_eq_true rfl) hl.1 ⟨Nat.zero_le _, Nat.zero_le _⟩ (dk DL_best 5 rfl) (fun H locs hR => ?_)
  refine lv_i2l hx hb (dk DL_best 6 rfl) rfl ?_
  refine r_last C hR ob91 rfl (dk DL_best 7 rfl) (fun H locs hR => ?_)
  refine lv_goto (tgt := 17) hx hb (dk DL_best 8 rfl) (by decide) ?_
  refine lv_iconst (v := (0 : Int32)) hx hb (dk DL_best 12 rfl) (by decide) ?_
  exact w_ret C hrt hR rfl rfl (dk DL_best 13 rfl)
set_option maxRecDepth 20000 in
theorem W_best_1 (l : Launch) (hl0 : l.stackTraces = false) (G : GG) (a1 : Bool) (a2 : Bool) (m0 : Mem) (m1 : Mem) (hF : F_T_best a1 a2 m0 = some (.inl 1, m1)) : Wt l G yL_best cL_best 5 [(0, 10, 13, 13)] 9 [.ref (G.2.1 + 0), .int (b2i a1), .int (b2i a2), .ref (G.2.1 + 91)] m0 (.inl 1) 1 m1 := by
  refine Wt_of hl0 (by decide) (Nat.le_of_ble_eq_true rfl) ?_
  intro p e s mid args below meth c ls C hN hrt htab hl hR
  have hx := C.1.1
  have hb := C.1.2.1
  have hl : lv_has ls 5 [(0, .ref (G.2.1 + 0)), (1, .int (b2i a1)), (2, .int (b2i a2)), (3, .ref (G.2.1 + 91))] := hl
  refine lv_aload_n hx hb (dk DL_best 0 rfl) rfl (lv_at hl 3 rfl) ?_
  refine lv_iconst (v := (0 : Int32)) hx hb (dk DL_best 1 rfl) (by decide) ?_
  refine lv_aload_n hx hb (dk DL_best 2 rfl) rfl (lv_at hl 0 rfl) ?_
  refine lv_iload_n hx hb (dk DL_best 3 rfl) rfl (lv_at hl 1 rfl) ?_
  refine lv_iload_n hx hb (dk DL_best 4 rfl) rfl (lv_at hl 2 rfl) ?_
  have hM := C_T_best l hl0 G a1 a2 m0 (Sum.inl 1) m1 hF
  rw [show ouI (Sum.inl 1) = (Sum.inl 1 : Ou) from rfl] at hM
  refine x_thr hR (x_runV (As := [.int (b2i a1), .int (b2i a2)]) (rest := [.int (0 : Int32), .ref (G.2.1 + 91)]) C hR hM (by decide) (by decide) ob0 rfl wL_126 rfl rfl (Nat.le_of_ble_eq_true rfl) hl.1 ⟨Nat.le_refl 1, Nat.le_refl 6⟩ (dk DL_best 5 rfl)) (fun H locs ce q hR h3 h4 h5 => ?_)
  refine w_catch (pre := []) (suf := []) (a := 0) (b := 10) (h := 13) (ct := 13) (k := 1) C hN htab rfl (by decide) (fun z hz => nomatch hz) rfl (by decide) (gd q781 rfl) h3 h4 h5 ?_
  refine lv_astore (lv' := [(4, .ref q), (0, .ref (G.2.1 + 0)), (1, .int (b2i a1)), (2, .int (b2i a2)), (3, .ref (G.2.1 + 91))]) hx hb (dk DL_best 9 rfl) hl (by decide) rfl (fun ls hl => ?_)
  refine lv_iconst (v := (1 : Int32)) hx hb (dk DL_best 10 rfl) (by decide) ?_
  exact w_ret C hrt hR rfl rfl (dk DL_best 11 rfl)
set_option maxRecDepth 20000 in
theorem W_blind_n (l : Launch) (hl0 : l.stackTraces = false) (G : GG) (a1 : Int32) (m0 : Mem) (v : Int64) (m1 : Mem) (hF : F_T_blind a1 m0 = some (.inr v, m1)) : Wt l G yL_blind cL_blind 4 [(0, 8, 11, 47), (0, 8, 14, 34)] 289 [.ref (G.2.1 + 0), .int a1, .ref (G.2.1 + 91)] m0 (.inr none) 0 (sL m1 91 0 v) := by
  refine Wt_of hl0 (by decide) (Nat.le_of_ble_eq_true rfl) ?_
  intro p e s mid args below meth c ls C hN hrt htab hl hR
  have hx := C.1.1
  have hb := C.1.2.1
  have hl : lv_has ls 4 [(0, .ref (G.2.1 + 0)), (1, .int a1), (2, .ref (G.2.1 + 91))] := hl
  refine lv_aload_n hx hb (dk DL_blind 0 rfl) rfl (lv_at hl 2 rfl) ?_
  refine lv_iconst (v := (0 : Int32)) hx hb (dk DL_blind 1 rfl) (by decide) ?_
  refine lv_aload_n hx hb (dk DL_blind 2 rfl) rfl (lv_at hl 0 rfl) ?_
  refine lv_iload_n hx hb (dk DL_blind 3 rfl) rfl (lv_at hl 1 rfl) ?_
  have hM := C_T_blind l hl0 G a1 m0 (Sum.inr v) m1 hF
  rw [show ouL (Sum.inr v) = (Sum.inr (some (.long v)) : Ou) from rfl] at hM
  refine x_callVl (As := [.int a1]) (rest := [.int (0 : Int32), .ref (G.2.1 + 91)]) C hR hM (by decide) (by decide) ob0 rfl wL_130 rfl rfl (Nat.le_of_ble_eq_true rfl) hl.1 ⟨Nat.zero_le _, Nat.zero_le _⟩ (dk DL_blind 4 rfl) (fun H locs hR => ?_)
  refine r_last C hR ob91 rfl (dk DL_blind 5 rfl) (fun H locs hR => ?_)
  refine lv_goto (tgt := 17) hx hb (dk DL_blind 6 rfl) (by decide) ?_
  refine lv_iconst (v := (0 : Int32)) hx hb (dk DL_blind 13 rfl) (by decide) ?_
  exact w_ret C hrt hR rfl rfl (dk DL_blind 14 rfl)
set_option maxRecDepth 20000 in
theorem W_blind_0 (l : Launch) (hl0 : l.stackTraces = false) (G : GG) (a1 : Int32) (m0 : Mem) (m1 : Mem) (hF : F_T_blind a1 m0 = some (.inl 0, m1)) : Wt l G yL_blind cL_blind 4 [(0, 8, 11, 47), (0, 8, 14, 34)] 289 [.ref (G.2.1 + 0), .int a1, .ref (G.2.1 + 91)] m0 (.inl 0) 1 m1 := by
  refine Wt_of hl0 (by decide) (Nat.le_of_ble_eq_true rfl) ?_
  intro p e s mid args below meth c ls C hN hrt htab hl hR
  have hx := C.1.1
  have hb := C.1.2.1
  have hl : lv_has ls 4 [(0, .ref (G.2.1 + 0)), (1, .int a1), (2, .ref (G.2.1 + 91))] := hl
  refine lv_aload_n hx hb (dk DL_blind 0 rfl) rfl (lv_at hl 2 rfl) ?_
  refine lv_iconst (v := (0 : Int32)) hx hb (dk DL_blind 1 rfl) (by decide) ?_
  refine lv_aload_n hx hb (dk DL_blind 2 rfl) rfl (lv_at hl 0 rfl) ?_
  refine lv_iload_n hx hb (dk DL_blind 3 rfl) rfl (lv_at hl 1 rfl) ?_
  have hM := C_T_blind l hl0 G a1 m0 (Sum.inl 0) m1 hF
  rw [show ouL (Sum.inl 0) = (Sum.inl 0 : Ou) from rfl] at hM
  refine x_thr hR (x_runV (As := [.int a1]) (rest := [.int (0 : Int32), .ref (G.2.1 + 91)]) C hR hM (by decide) (by decide) ob0 rfl wL_130 rfl rfl (Nat.le_of_ble_eq_true rfl) hl.1 ⟨Nat.le_refl 1, Nat.le_refl 6⟩ (dk DL_blind 4 rfl)) (fun H locs ce q hR h3 h4 h5 => ?_)
  refine w_catch (pre := []) (suf := [(0, 8, 14, 34)]) (a := 0) (b := 8) (h := 11) (ct := 47) (k := 0) C hN htab rfl (by decide) (fun z hz => nomatch hz) rfl (by decide) (gd q1234 rfl) h3 h4 h5 ?_
  refine lv_astore_n (lv' := [(3, .ref q), (0, .ref (G.2.1 + 0)), (1, .int a1), (2, .ref (G.2.1 + 91))]) hx hb (dk DL_blind 7 rfl) rfl hl (by decide) rfl (fun ls hl => ?_)
  refine lv_iconst (v := (1 : Int32)) hx hb (dk DL_blind 8 rfl) (by decide) ?_
  exact w_ret C hrt hR rfl rfl (dk DL_blind 9 rfl)
set_option maxRecDepth 20000 in
theorem W_blind_4 (l : Launch) (hl0 : l.stackTraces = false) (G : GG) (a1 : Int32) (m0 : Mem) (m1 : Mem) (hF : F_T_blind a1 m0 = some (.inl 4, m1)) : Wt l G yL_blind cL_blind 4 [(0, 8, 11, 47), (0, 8, 14, 34)] 289 [.ref (G.2.1 + 0), .int a1, .ref (G.2.1 + 91)] m0 (.inl 4) 2 m1 := by
  refine Wt_of hl0 (by decide) (Nat.le_of_ble_eq_true rfl) ?_
  intro p e s mid args below meth c ls C hN hrt htab hl hR
  have hx := C.1.1
  have hb := C.1.2.1
  have hl : lv_has ls 4 [(0, .ref (G.2.1 + 0)), (1, .int a1), (2, .ref (G.2.1 + 91))] := hl
  refine lv_aload_n hx hb (dk DL_blind 0 rfl) rfl (lv_at hl 2 rfl) ?_
  refine lv_iconst (v := (0 : Int32)) hx hb (dk DL_blind 1 rfl) (by decide) ?_
  refine lv_aload_n hx hb (dk DL_blind 2 rfl) rfl (lv_at hl 0 rfl) ?_
  refine lv_iload_n hx hb (dk DL_blind 3 rfl) rfl (lv_at hl 1 rfl) ?_
  have hM := C_T_blind l hl0 G a1 m0 (Sum.inl 4) m1 hF
  rw [show ouL (Sum.inl 4) = (Sum.inl 4 : Ou) from rfl] at hM
  refine x_thr hR (x_runV (As := [.int a1]) (rest := [.int (0 : Int32), .ref (G.2.1 + 91)]) C hR hM (by decide) (by decide) ob0 rfl wL_130 rfl rfl (Nat.le_of_ble_eq_true rfl) hl.1 ⟨Nat.le_refl 1, Nat.le_refl 6⟩ (dk DL_blind 4 rfl)) (fun H locs ce q hR h3 h4 h5 => ?_)
  refine w_catch (pre := [(0, 8, 11, 47)]) (suf := []) (a := 0) (b := 8) (h := 14) (ct := 34) (k := 4) C hN htab rfl (by decide) (List.forall_mem_cons.mpr ⟨⟨by decide, 0, by decide, by decide, (gd q1234 rfl)⟩, (fun z hz => nomatch hz)⟩) rfl (by decide) (gd q1165 rfl) h3 h4 h5 ?_
  refine lv_astore_n (lv' := [(3, .ref q), (0, .ref (G.2.1 + 0)), (1, .int a1), (2, .ref (G.2.1 + 91))]) hx hb (dk DL_blind 10 rfl) rfl hl (by decide) rfl (fun ls hl => ?_)
  refine lv_iconst (v := (2 : Int32)) hx hb (dk DL_blind 11 rfl) (by decide) ?_
  exact w_ret C hrt hR rfl rfl (dk DL_blind 12 rfl)
set_option maxRecDepth 20000 in
theorem W_target_n (l : Launch) (hl0 : l.stackTraces = false) (G : GG) (a1 : Bool) (m0 : Mem) (v : Int32) (m1 : Mem) (hF : F_T_target a1 m0 = some (.inr v, m1)) : Wt l G yL_target cL_target 4 [(0, 9, 12, 47)] 10 [.ref (G.2.1 + 0), .int (b2i a1), .ref (G.2.1 + 91)] m0 (.inr none) 0 (sL m1 91 0 v.toInt64) := by
  refine Wt_of hl0 (by decide) (Nat.le_of_ble_eq_true rfl) ?_
  intro p e s mid args below meth c ls C hN hrt htab hl hR
  have hx := C.1.1
  have hb := C.1.2.1
  have hl : lv_has ls 4 [(0, .ref (G.2.1 + 0)), (1, .int (b2i a1)), (2, .ref (G.2.1 + 91))] := hl
  refine lv_aload_n hx hb (dk DL_target 0 rfl) rfl (lv_at hl 2 rfl) ?_
  refine lv_iconst (v := (0 : Int32)) hx hb (dk DL_target 1 rfl) (by decide) ?_
  refine lv_aload_n hx hb (dk DL_target 2 rfl) rfl (lv_at hl 0 rfl) ?_
  refine lv_iload_n hx hb (dk DL_target 3 rfl) rfl (lv_at hl 1 rfl) ?_
  have hM := C_T_target l hl0 G a1 m0 (Sum.inr v) m1 hF
  rw [show ouI (Sum.inr v) = (Sum.inr (some (.int v)) : Ou) from rfl] at hM
  refine x_callVi (As := [.int (b2i a1)]) (rest := [.int (0 : Int32), .ref (G.2.1 + 91)]) C hR hM (by decide) (by decide) ob0 rfl wL_133 rfl rfl (Nat.le_of_ble_eq_true rfl) hl.1 ⟨Nat.zero_le _, Nat.zero_le _⟩ (dk DL_target 4 rfl) (fun H locs hR => ?_)
  refine lv_i2l hx hb (dk DL_target 5 rfl) rfl ?_
  refine r_last C hR ob91 rfl (dk DL_target 6 rfl) (fun H locs hR => ?_)
  refine lv_goto (tgt := 15) hx hb (dk DL_target 7 rfl) (by decide) ?_
  refine lv_iconst (v := (0 : Int32)) hx hb (dk DL_target 11 rfl) (by decide) ?_
  exact w_ret C hrt hR rfl rfl (dk DL_target 12 rfl)
set_option maxRecDepth 20000 in
theorem W_target_0 (l : Launch) (hl0 : l.stackTraces = false) (G : GG) (a1 : Bool) (m0 : Mem) (m1 : Mem) (hF : F_T_target a1 m0 = some (.inl 0, m1)) : Wt l G yL_target cL_target 4 [(0, 9, 12, 47)] 10 [.ref (G.2.1 + 0), .int (b2i a1), .ref (G.2.1 + 91)] m0 (.inl 0) 1 m1 := by
  refine Wt_of hl0 (by decide) (Nat.le_of_ble_eq_true rfl) ?_
  intro p e s mid args below meth c ls C hN hrt htab hl hR
  have hx := C.1.1
  have hb := C.1.2.1
  have hl : lv_has ls 4 [(0, .ref (G.2.1 + 0)), (1, .int (b2i a1)), (2, .ref (G.2.1 + 91))] := hl
  refine lv_aload_n hx hb (dk DL_target 0 rfl) rfl (lv_at hl 2 rfl) ?_
  refine lv_iconst (v := (0 : Int32)) hx hb (dk DL_target 1 rfl) (by decide) ?_
  refine lv_aload_n hx hb (dk DL_target 2 rfl) rfl (lv_at hl 0 rfl) ?_
  refine lv_iload_n hx hb (dk DL_target 3 rfl) rfl (lv_at hl 1 rfl) ?_
  have hM := C_T_target l hl0 G a1 m0 (Sum.inl 0) m1 hF
  rw [show ouI (Sum.inl 0) = (Sum.inl 0 : Ou) from rfl] at hM
  refine x_thr hR (x_runV (As := [.int (b2i a1)]) (rest := [.int (0 : Int32), .ref (G.2.1 + 91)]) C hR hM (by decide) (by decide) ob0 rfl wL_133 rfl rfl (Nat.le_of_ble_eq_true rfl) hl.1 ⟨Nat.le_refl 1, Nat.le_refl 6⟩ (dk DL_target 4 rfl)) (fun H locs ce q hR h3 h4 h5 => ?_)
  refine w_catch (pre := []) (suf := []) (a := 0) (b := 9) (h := 12) (ct := 47) (k := 0) C hN htab rfl (by decide) (fun z hz => nomatch hz) rfl (by decide) (gd q1234 rfl) h3 h4 h5 ?_
  refine lv_astore_n (lv' := [(3, .ref q), (0, .ref (G.2.1 + 0)), (1, .int (b2i a1)), (2, .ref (G.2.1 + 91))]) hx hb (dk DL_target 8 rfl) rfl hl (by decide) rfl (fun ls hl => ?_)
  refine lv_iconst (v := (1 : Int32)) hx hb (dk DL_target 9 rfl) (by decide) ?_
  exact w_ret C hrt hR rfl rfl (dk DL_target 10 rfl)
set_option maxRecDepth 20000 in
theorem W_streak_n (l : Launch) (hl0 : l.stackTraces = false) (G : GG) (a1 : Int32) (m0 : Mem) (v : Int32) (m1 : Mem) (hF : F_T_streak a1 m0 = some (.inr v, m1)) : Wt l G yL_streak cL_streak 4 [(0, 9, 12, 34)] 9 [.ref (G.2.1 + 0), .int a1, .ref (G.2.1 + 91)] m0 (.inr none) 0 (sL m1 91 0 v.toInt64) := by
  refine Wt_of hl0 (by decide) (Nat.le_of_ble_eq_true rfl) ?_
  intro p e s mid args below meth c ls C hN hrt htab hl hR
  have hx := C.1.1
  have hb := C.1.2.1
  have hl : lv_has ls 4 [(0, .ref (G.2.1 + 0)), (1, .int a1), (2, .ref (G.2.1 + 91))] := hl
  refine lv_aload_n hx hb (dk DL_streak 0 rfl) rfl (lv_at hl 2 rfl) ?_
  refine lv_iconst (v := (0 : Int32)) hx hb (dk DL_streak 1 rfl) (by decide) ?_
  refine lv_aload_n hx hb (dk DL_streak 2 rfl) rfl (lv_at hl 0 rfl) ?_
  refine lv_iload_n hx hb (dk DL_streak 3 rfl) rfl (lv_at hl 1 rfl) ?_
  have hM := C_T_streak l hl0 G a1 m0 (Sum.inr v) m1 hF
  rw [show ouI (Sum.inr v) = (Sum.inr (some (.int v)) : Ou) from rfl] at hM
  refine x_callVi (As := [.int a1]) (rest := [.int (0 : Int32), .ref (G.2.1 + 91)]) C hR hM (by decide) (by decide) ob0 rfl wL_136 rfl rfl (Nat.le_of_ble_eq_true rfl) hl.1 ⟨Nat.zero_le _, Nat.zero_le _⟩ (dk DL_streak 4 rfl) (fun H locs hR => ?_)
  refine lv_i2l hx hb (dk DL_streak 5 rfl) rfl ?_
  refine r_last C hR ob91 rfl (dk DL_streak 6 rfl) (fun H locs hR => ?_)
  refine lv_goto (tgt := 15) hx hb (dk DL_streak 7 rfl) (by decide) ?_
  refine lv_iconst (v := (0 : Int32)) hx hb (dk DL_streak 11 rfl) (by decide) ?_
  exact w_ret C hrt hR rfl rfl (dk DL_streak 12 rfl)
set_option maxRecDepth 20000 in
theorem W_streak_4 (l : Launch) (hl0 : l.stackTraces = false) (G : GG) (a1 : Int32) (m0 : Mem) (m1 : Mem) (hF : F_T_streak a1 m0 = some (.inl 4, m1)) : Wt l G yL_streak cL_streak 4 [(0, 9, 12, 34)] 9 [.ref (G.2.1 + 0), .int a1, .ref (G.2.1 + 91)] m0 (.inl 4) 1 m1 := by
  refine Wt_of hl0 (by decide) (Nat.le_of_ble_eq_true rfl) ?_
  intro p e s mid args below meth c ls C hN hrt htab hl hR
  have hx := C.1.1
  have hb := C.1.2.1
  have hl : lv_has ls 4 [(0, .ref (G.2.1 + 0)), (1, .int a1), (2, .ref (G.2.1 + 91))] := hl
  refine lv_aload_n hx hb (dk DL_streak 0 rfl) rfl (lv_at hl 2 rfl) ?_
  refine lv_iconst (v := (0 : Int32)) hx hb (dk DL_streak 1 rfl) (by decide) ?_
  refine lv_aload_n hx hb (dk DL_streak 2 rfl) rfl (lv_at hl 0 rfl) ?_
  refine lv_iload_n hx hb (dk DL_streak 3 rfl) rfl (lv_at hl 1 rfl) ?_
  have hM := C_T_streak l hl0 G a1 m0 (Sum.inl 4) m1 hF
  rw [show ouI (Sum.inl 4) = (Sum.inl 4 : Ou) from rfl] at hM
  refine x_thr hR (x_runV (As := [.int a1]) (rest := [.int (0 : Int32), .ref (G.2.1 + 91)]) C hR hM (by decide) (by decide) ob0 rfl wL_136 rfl rfl (Nat.le_of_ble_eq_true rfl) hl.1 ⟨Nat.le_refl 1, Nat.le_refl 6⟩ (dk DL_streak 4 rfl)) (fun H locs ce q hR h3 h4 h5 => ?_)
  refine w_catch (pre := []) (suf := []) (a := 0) (b := 9) (h := 12) (ct := 34) (k := 4) C hN htab rfl (by decide) (fun z hz => nomatch hz) rfl (by decide) (gd q1165 rfl) h3 h4 h5 ?_
  refine lv_astore_n (lv' := [(3, .ref q), (0, .ref (G.2.1 + 0)), (1, .int a1), (2, .ref (G.2.1 + 91))]) hx hb (dk DL_streak 8 rfl) rfl hl (by decide) rfl (fun ls hl => ?_)
  refine lv_iconst (v := (1 : Int32)) hx hb (dk DL_streak 9 rfl) (by decide) ?_
  exact w_ret C hrt hR rfl rfl (dk DL_streak 10 rfl)
set_option maxRecDepth 20000 in
theorem W_table_n (l : Launch) (hl0 : l.stackTraces = false) (G : GG) (a1 : Int32) (a2 : Int32) (a3 : Int32) (a4 : Bool) (m0 : Mem) (v : Int32) (m1 : Mem) (hF : F_T_table a1 a2 a3 a4 m0 = some (.inr v, m1)) : Wt l G yL_table cL_table 7 [(0, 14, 17, 24)] 10 [.ref (G.2.1 + 0), .int a1, .int a2, .int a3, .int (b2i a4), .ref (G.2.1 + 91)] m0 (.inr none) 0 (sL m1 91 0 v.toInt64) := by
  refine Wt_of hl0 (by decide) (Nat.le_of_ble_eq_true rfl) ?_
  intro p e s mid args below meth c ls C hN hrt htab hl hR
  have hx := C.1.1
  have hb := C.1.2.1
  have hl : lv_has ls 7 [(0, .ref (G.2.1 + 0)), (1, .int a1), (2, .int a2), (3, .int a3), (4, .int (b2i a4)), (5, .ref (G.2.1 + 91))] := hl
  refine lv_aload hx hb (dk DL_table 0 rfl) (lv_at hl 5 rfl) ?_
  refine lv_iconst (v := (0 : Int32)) hx hb (dk DL_table 1 rfl) (by decide) ?_
  refine lv_aload_n hx hb (dk DL_table 2 rfl) rfl (lv_at hl 0 rfl) ?_
  refine lv_iload_n hx hb (dk DL_table 3 rfl) rfl (lv_at hl 1 rfl) ?_
  refine lv_iload_n hx hb (dk DL_table 4 rfl) rfl (lv_at hl 2 rfl) ?_
  refine lv_iload_n hx hb (dk DL_table 5 rfl) rfl (lv_at hl 3 rfl) ?_
  refine lv_iload hx hb (dk DL_table 6 rfl) (lv_at hl 4 rfl) ?_
  have hM := C_T_table l hl0 G a1 a2 a3 a4 m0 (Sum.inr v) m1 hF
  rw [show ouI (Sum.inr v) = (Sum.inr (some (.int v)) : Ou) from rfl] at hM
  refine x_callVi (As := [.int a1, .int a2, .int a3, .int (b2i a4)]) (rest := [.int (0 : Int32), .ref (G.2.1 + 91)]) C hR hM (by decide) (by decide) ob0 rfl wL_139 rfl rfl (Nat.le_of_ble_eq_true rfl) hl.1 ⟨Nat.zero_le _, Nat.zero_le _⟩ (dk DL_table 7 rfl) (fun H locs hR => ?_)
  refine lv_i2l hx hb (dk DL_table 8 rfl) rfl ?_
  refine r_last C hR ob91 rfl (dk DL_table 9 rfl) (fun H locs hR => ?_)
  refine lv_goto (tgt := 21) hx hb (dk DL_table 10 rfl) (by decide) ?_
  refine lv_iconst (v := (0 : Int32)) hx hb (dk DL_table 14 rfl) (by decide) ?_
  exact w_ret C hrt hR rfl rfl (dk DL_table 15 rfl)
set_option maxRecDepth 20000 in
theorem W_table_2 (l : Launch) (hl0 : l.stackTraces = false) (G : GG) (a1 : Int32) (a2 : Int32) (a3 : Int32) (a4 : Bool) (m0 : Mem) (m1 : Mem) (hF : F_T_table a1 a2 a3 a4 m0 = some (.inl 2, m1)) : Wt l G yL_table cL_table 7 [(0, 14, 17, 24)] 10 [.ref (G.2.1 + 0), .int a1, .int a2, .int a3, .int (b2i a4), .ref (G.2.1 + 91)] m0 (.inl 2) 1 m1 := by
  refine Wt_of hl0 (by decide) (Nat.le_of_ble_eq_true rfl) ?_
  intro p e s mid args below meth c ls C hN hrt htab hl hR
  have hx := C.1.1
  have hb := C.1.2.1
  have hl : lv_has ls 7 [(0, .ref (G.2.1 + 0)), (1, .int a1), (2, .int a2), (3, .int a3), (4, .int (b2i a4)), (5, .ref (G.2.1 + 91))] := hl
  refine lv_aload hx hb (dk DL_table 0 rfl) (lv_at hl 5 rfl) ?_
  refine lv_iconst (v := (0 : Int32)) hx hb (dk DL_table 1 rfl) (by decide) ?_
  refine lv_aload_n hx hb (dk DL_table 2 rfl) rfl (lv_at hl 0 rfl) ?_
  refine lv_iload_n hx hb (dk DL_table 3 rfl) rfl (lv_at hl 1 rfl) ?_
  refine lv_iload_n hx hb (dk DL_table 4 rfl) rfl (lv_at hl 2 rfl) ?_
  refine lv_iload_n hx hb (dk DL_table 5 rfl) rfl (lv_at hl 3 rfl) ?_
  refine lv_iload hx hb (dk DL_table 6 rfl) (lv_at hl 4 rfl) ?_
  have hM := C_T_table l hl0 G a1 a2 a3 a4 m0 (Sum.inl 2) m1 hF
  rw [show ouI (Sum.inl 2) = (Sum.inl 2 : Ou) from rfl] at hM
  refine x_thr hR (x_runV (As := [.int a1, .int a2, .int a3, .int (b2i a4)]) (rest := [.int (0 : Int32), .ref (G.2.1 + 91)]) C hR hM (by decide) (by decide) ob0 rfl wL_139 rfl rfl (Nat.le_of_ble_eq_true rfl) hl.1 ⟨Nat.le_refl 1, Nat.le_refl 6⟩ (dk DL_table 7 rfl)) (fun H locs ce q hR h3 h4 h5 => ?_)
  refine w_catch (pre := []) (suf := []) (a := 0) (b := 14) (h := 17) (ct := 24) (k := 2) C hN htab rfl (by decide) (fun z hz => nomatch hz) rfl (by decide) (gd q1126 rfl) h3 h4 h5 ?_
  refine lv_astore (lv' := [(6, .ref q), (0, .ref (G.2.1 + 0)), (1, .int a1), (2, .int a2), (3, .int a3), (4, .int (b2i a4)), (5, .ref (G.2.1 + 91))]) hx hb (dk DL_table 11 rfl) hl (by decide) rfl (fun ls hl => ?_)
  refine lv_iconst (v := (1 : Int32)) hx hb (dk DL_table 12 rfl) (by decide) ?_
  exact w_ret C hrt hR rfl rfl (dk DL_table 13 rfl)
set_option maxRecDepth 20000 in
theorem W_form_n (l : Launch) (hl0 : l.stackTraces = false) (G : GG) (a1 : Int32) (a2 : Int32) (m0 : Mem) (v : Int32) (m1 : Mem) (hF : F_T_form a1 a2 m0 = some (.inr v, m1)) : Wt l G yL_form cL_form 5 [(0, 10, 13, 24), (0, 10, 17, 13)] 10 [.ref (G.2.1 + 0), .int a1, .int a2, .ref (G.2.1 + 91)] m0 (.inr none) 0 (sL m1 91 0 v.toInt64) := by
  refine Wt_of hl0 (by decide) (Nat.le_of_ble_eq_true rfl) ?_
  intro p e s mid args below meth c ls C hN hrt htab hl hR
  have hx := C.1.1
  have hb := C.1.2.1
  have hl : lv_has ls 5 [(0, .ref (G.2.1 + 0)), (1, .int a1), (2, .int a2), (3, .ref (G.2.1 + 91))] := hl
  refine lv_aload_n hx hb (dk DL_form 0 rfl) rfl (lv_at hl 3 rfl) ?_
  refine lv_iconst (v := (0 : Int32)) hx hb (dk DL_form 1 rfl) (by decide) ?_
  refine lv_aload_n hx hb (dk DL_form 2 rfl) rfl (lv_at hl 0 rfl) ?_
  refine lv_iload_n hx hb (dk DL_form 3 rfl) rfl (lv_at hl 1 rfl) ?_
  refine lv_iload_n hx hb (dk DL_form 4 rfl) rfl (lv_at hl 2 rfl) ?_
  have hM := C_T_form l hl0 G a1 a2 m0 (Sum.inr v) m1 hF
  rw [show ouI (Sum.inr v) = (Sum.inr (some (.int v)) : Ou) from rfl] at hM
  refine x_callVi (As := [.int a1, .int a2]) (rest := [.int (0 : Int32), .ref (G.2.1 + 91)]) C hR hM (by decide) (by decide) ob0 rfl wL_143 rfl rfl (Nat.le_of_ble_eq_true rfl) hl.1 ⟨Nat.zero_le _, Nat.zero_le _⟩ (dk DL_form 5 rfl) (fun H locs hR => ?_)
  refine lv_i2l hx hb (dk DL_form 6 rfl) rfl ?_
  refine r_last C hR ob91 rfl (dk DL_form 7 rfl) (fun H locs hR => ?_)
  refine lv_goto (tgt := 21) hx hb (dk DL_form 8 rfl) (by decide) ?_
  refine lv_iconst (v := (0 : Int32)) hx hb (dk DL_form 15 rfl) (by decide) ?_
  exact w_ret C hrt hR rfl rfl (dk DL_form 16 rfl)
set_option maxRecDepth 20000 in
theorem W_form_2 (l : Launch) (hl0 : l.stackTraces = false) (G : GG) (a1 : Int32) (a2 : Int32) (m0 : Mem) (m1 : Mem) (hF : F_T_form a1 a2 m0 = some (.inl 2, m1)) : Wt l G yL_form cL_form 5 [(0, 10, 13, 24), (0, 10, 17, 13)] 10 [.ref (G.2.1 + 0), .int a1, .int a2, .ref (G.2.1 + 91)] m0 (.inl 2) 1 m1 := by
  refine Wt_of hl0 (by decide) (Nat.le_of_ble_eq_true rfl) ?_
  intro p e s mid args below meth c ls C hN hrt htab hl hR
  have hx := C.1.1
  have hb := C.1.2.1
  have hl : lv_has ls 5 [(0, .ref (G.2.1 + 0)), (1, .int a1), (2, .int a2), (3, .ref (G.2.1 + 91))] := hl
  refine lv_aload_n hx hb (dk DL_form 0 rfl) rfl (lv_at hl 3 rfl) ?_
  refine lv_iconst (v := (0 : Int32)) hx hb (dk DL_form 1 rfl) (by decide) ?_
  refine lv_aload_n hx hb (dk DL_form 2 rfl) rfl (lv_at hl 0 rfl) ?_
  refine lv_iload_n hx hb (dk DL_form 3 rfl) rfl (lv_at hl 1 rfl) ?_
  refine lv_iload_n hx hb (dk DL_form 4 rfl) rfl (lv_at hl 2 rfl) ?_
  have hM := C_T_form l hl0 G a1 a2 m0 (Sum.inl 2) m1 hF
  rw [show ouI (Sum.inl 2) = (Sum.inl 2 : Ou) from rfl] at hM
  refine x_thr hR (x_runV (As := [.int a1, .int a2]) (rest := [.int (0 : Int32), .ref (G.2.1 + 91)]) C hR hM (by decide) (by decide) ob0 rfl wL_143 rfl rfl (Nat.le_of_ble_eq_true rfl) hl.1 ⟨Nat.le_refl 1, Nat.le_refl 6⟩ (dk DL_form 5 rfl)) (fun H locs ce q hR h3 h4 h5 => ?_)
  refine w_catch (pre := []) (suf := [(0, 10, 17, 13)]) (a := 0) (b := 10) (h := 13) (ct := 24) (k := 2) C hN htab rfl (by decide) (fun z hz => nomatch hz) rfl (by decide) (gd q1126 rfl) h3 h4 h5 ?_
  refine lv_astore (lv' := [(4, .ref q), (0, .ref (G.2.1 + 0)), (1, .int a1), (2, .int a2), (3, .ref (G.2.1 + 91))]) hx hb (dk DL_form 9 rfl) hl (by decide) rfl (fun ls hl => ?_)
  refine lv_iconst (v := (1 : Int32)) hx hb (dk DL_form 10 rfl) (by decide) ?_
  exact w_ret C hrt hR rfl rfl (dk DL_form 11 rfl)
set_option maxRecDepth 20000 in
theorem W_form_1 (l : Launch) (hl0 : l.stackTraces = false) (G : GG) (a1 : Int32) (a2 : Int32) (m0 : Mem) (m1 : Mem) (hF : F_T_form a1 a2 m0 = some (.inl 1, m1)) : Wt l G yL_form cL_form 5 [(0, 10, 13, 24), (0, 10, 17, 13)] 10 [.ref (G.2.1 + 0), .int a1, .int a2, .ref (G.2.1 + 91)] m0 (.inl 1) 2 m1 := by
  refine Wt_of hl0 (by decide) (Nat.le_of_ble_eq_true rfl) ?_
  intro p e s mid args below meth c ls C hN hrt htab hl hR
  have hx := C.1.1
  have hb := C.1.2.1
  have hl : lv_has ls 5 [(0, .ref (G.2.1 + 0)), (1, .int a1), (2, .int a2), (3, .ref (G.2.1 + 91))] := hl
  refine lv_aload_n hx hb (dk DL_form 0 rfl) rfl (lv_at hl 3 rfl) ?_
  refine lv_iconst (v := (0 : Int32)) hx hb (dk DL_form 1 rfl) (by decide) ?_
  refine lv_aload_n hx hb (dk DL_form 2 rfl) rfl (lv_at hl 0 rfl) ?_
  refine lv_iload_n hx hb (dk DL_form 3 rfl) rfl (lv_at hl 1 rfl) ?_
  refine lv_iload_n hx hb (dk DL_form 4 rfl) rfl (lv_at hl 2 rfl) ?_
  have hM := C_T_form l hl0 G a1 a2 m0 (Sum.inl 1) m1 hF
  rw [show ouI (Sum.inl 1) = (Sum.inl 1 : Ou) from rfl] at hM
  refine x_thr hR (x_runV (As := [.int a1, .int a2]) (rest := [.int (0 : Int32), .ref (G.2.1 + 91)]) C hR hM (by decide) (by decide) ob0 rfl wL_143 rfl rfl (Nat.le_of_ble_eq_true rfl) hl.1 ⟨Nat.le_refl 1, Nat.le_refl 6⟩ (dk DL_form 5 rfl)) (fun H locs ce q hR h3 h4 h5 => ?_)
  refine w_catch (pre := [(0, 10, 13, 24)]) (suf := []) (a := 0) (b := 10) (h := 17) (ct := 13) (k := 1) C hN htab rfl (by decide) (List.forall_mem_cons.mpr ⟨⟨by decide, 2, by decide, by decide, (gd q1126 rfl)⟩, (fun z hz => nomatch hz)⟩) rfl (by decide) (gd q781 rfl) h3 h4 h5 ?_
  refine lv_astore (lv' := [(4, .ref q), (0, .ref (G.2.1 + 0)), (1, .int a1), (2, .int a2), (3, .ref (G.2.1 + 91))]) hx hb (dk DL_form 12 rfl) hl (by decide) rfl (fun ls hl => ?_)
  refine lv_iconst (v := (2 : Int32)) hx hb (dk DL_form 13 rfl) (by decide) ?_
  exact w_ret C hrt hR rfl rfl (dk DL_form 14 rfl)
set_option maxRecDepth 20000 in
theorem W_hardest_n (l : Launch) (hl0 : l.stackTraces = false) (G : GG) (a1 : Int32) (a2 : Int32) (m0 : Mem) (v : Int32) (m1 : Mem) (hF : F_T_hardest a1 a2 m0 = some (.inr v, m1)) : Wt l G yL_hardest cL_hardest 5 [(0, 10, 13, 24)] 10 [.ref (G.2.1 + 0), .int a1, .int a2, .ref (G.2.1 + 91)] m0 (.inr none) 0 (sL m1 91 0 v.toInt64) := by
  refine Wt_of hl0 (by decide) (Nat.le_of_ble_eq_true rfl) ?_
  intro p e s mid args below meth c ls C hN hrt htab hl hR
  have hx := C.1.1
  have hb := C.1.2.1
  have hl : lv_has ls 5 [(0, .ref (G.2.1 + 0)), (1, .int a1), (2, .int a2), (3, .ref (G.2.1 + 91))] := hl
  refine lv_aload_n hx hb (dk DL_hardest 0 rfl) rfl (lv_at hl 3 rfl) ?_
  refine lv_iconst (v := (0 : Int32)) hx hb (dk DL_hardest 1 rfl) (by decide) ?_
  refine lv_aload_n hx hb (dk DL_hardest 2 rfl) rfl (lv_at hl 0 rfl) ?_
  refine lv_iload_n hx hb (dk DL_hardest 3 rfl) rfl (lv_at hl 1 rfl) ?_
  refine lv_iload_n hx hb (dk DL_hardest 4 rfl) rfl (lv_at hl 2 rfl) ?_
  have hM := C_T_hardest l hl0 G a1 a2 m0 (Sum.inr v) m1 hF
  rw [show ouI (Sum.inr v) = (Sum.inr (some (.int v)) : Ou) from rfl] at hM
  refine x_callVi (As := [.int a1, .int a2]) (rest := [.int (0 : Int32), .ref (G.2.1 + 91)]) C hR hM (by decide) (by decide) ob0 rfl wL_146 rfl rfl (Nat.le_of_ble_eq_true rfl) hl.1 ⟨Nat.zero_le _, Nat.zero_le _⟩ (dk DL_hardest 5 rfl) (fun H locs hR => ?_)
  refine lv_i2l hx hb (dk DL_hardest 6 rfl) rfl ?_
  refine r_last C hR ob91 rfl (dk DL_hardest 7 rfl) (fun H locs hR => ?_)
  refine lv_goto (tgt := 17) hx hb (dk DL_hardest 8 rfl) (by decide) ?_
  refine lv_iconst (v := (0 : Int32)) hx hb (dk DL_hardest 12 rfl) (by decide) ?_
  exact w_ret C hrt hR rfl rfl (dk DL_hardest 13 rfl)
set_option maxRecDepth 20000 in
theorem W_hardest_2 (l : Launch) (hl0 : l.stackTraces = false) (G : GG) (a1 : Int32) (a2 : Int32) (m0 : Mem) (m1 : Mem) (hF : F_T_hardest a1 a2 m0 = some (.inl 2, m1)) : Wt l G yL_hardest cL_hardest 5 [(0, 10, 13, 24)] 10 [.ref (G.2.1 + 0), .int a1, .int a2, .ref (G.2.1 + 91)] m0 (.inl 2) 1 m1 := by
  refine Wt_of hl0 (by decide) (Nat.le_of_ble_eq_true rfl) ?_
  intro p e s mid args below meth c ls C hN hrt htab hl hR
  have hx := C.1.1
  have hb := C.1.2.1
  have hl : lv_has ls 5 [(0, .ref (G.2.1 + 0)), (1, .int a1), (2, .int a2), (3, .ref (G.2.1 + 91))] := hl
  refine lv_aload_n hx hb (dk DL_hardest 0 rfl) rfl (lv_at hl 3 rfl) ?_
  refine lv_iconst (v := (0 : Int32)) hx hb (dk DL_hardest 1 rfl) (by decide) ?_
  refine lv_aload_n hx hb (dk DL_hardest 2 rfl) rfl (lv_at hl 0 rfl) ?_
  refine lv_iload_n hx hb (dk DL_hardest 3 rfl) rfl (lv_at hl 1 rfl) ?_
  refine lv_iload_n hx hb (dk DL_hardest 4 rfl) rfl (lv_at hl 2 rfl) ?_
  have hM := C_T_hardest l hl0 G a1 a2 m0 (Sum.inl 2) m1 hF
  rw [show ouI (Sum.inl 2) = (Sum.inl 2 : Ou) from rfl] at hM
  refine x_thr hR (x_runV (As := [.int a1, .int a2]) (rest := [.int (0 : Int32), .ref (G.2.1 + 91)]) C hR hM (by decide) (by decide) ob0 rfl wL_146 rfl rfl (Nat.le_of_ble_eq_true rfl) hl.1 ⟨Nat.le_refl 1, Nat.le_refl 6⟩ (dk DL_hardest 5 rfl)) (fun H locs ce q hR h3 h4 h5 => ?_)
  refine w_catch (pre := []) (suf := []) (a := 0) (b := 10) (h := 13) (ct := 24) (k := 2) C hN htab rfl (by decide) (fun z hz => nomatch hz) rfl (by decide) (gd q1126 rfl) h3 h4 h5 ?_
  refine lv_astore (lv' := [(4, .ref q), (0, .ref (G.2.1 + 0)), (1, .int a1), (2, .int a2), (3, .ref (G.2.1 + 91))]) hx hb (dk DL_hardest 9 rfl) hl (by decide) rfl (fun ls hl => ?_)
  refine lv_iconst (v := (1 : Int32)) hx hb (dk DL_hardest 10 rfl) (by decide) ?_
  exact w_ret C hrt hR rfl rfl (dk DL_hardest 11 rfl)
set_option maxRecDepth 20000 in
theorem W_log_n (l : Launch) (hl0 : l.stackTraces = false) (G : GG) (a1 : Int32) (a2 : Int32) (m0 : Mem) (v : Int32) (m1 : Mem) (hF : F_T_log a1 a2 m0 = some (.inr v, m1)) : Wt l G yL_log cL_log 5 [(0, 10, 13, 34)] 9 [.ref (G.2.1 + 0), .int a1, .int a2, .ref (G.2.1 + 91)] m0 (.inr none) 0 (sL m1 91 0 v.toInt64) := by
  refine Wt_of hl0 (by decide) (Nat.le_of_ble_eq_true rfl) ?_
  intro p e s mid args below meth c ls C hN hrt htab hl hR
  have hx := C.1.1
  have hb := C.1.2.1
  have hl : lv_has ls 5 [(0, .ref (G.2.1 + 0)), (1, .int a1), (2, .int a2), (3, .ref (G.2.1 + 91))] := hl
  refine lv_aload_n hx hb (dk DL_log 0 rfl) rfl (lv_at hl 3 rfl) ?_
  refine lv_iconst (v := (0 : Int32)) hx hb (dk DL_log 1 rfl) (by decide) ?_
  refine lv_aload_n hx hb (dk DL_log 2 rfl) rfl (lv_at hl 0 rfl) ?_
  refine lv_iload_n hx hb (dk DL_log 3 rfl) rfl (lv_at hl 1 rfl) ?_
  refine lv_iload_n hx hb (dk DL_log 4 rfl) rfl (lv_at hl 2 rfl) ?_
  have hM := C_T_log l hl0 G a1 a2 m0 (Sum.inr v) m1 hF
  rw [show ouI (Sum.inr v) = (Sum.inr (some (.int v)) : Ou) from rfl] at hM
  refine x_callVi (As := [.int a1, .int a2]) (rest := [.int (0 : Int32), .ref (G.2.1 + 91)]) C hR hM (by decide) (by decide) ob0 rfl wL_149 rfl rfl (Nat.le_of_ble_eq_true rfl) hl.1 ⟨Nat.zero_le _, Nat.zero_le _⟩ (dk DL_log 5 rfl) (fun H locs hR => ?_)
  refine lv_i2l hx hb (dk DL_log 6 rfl) rfl ?_
  refine r_last C hR ob91 rfl (dk DL_log 7 rfl) (fun H locs hR => ?_)
  refine lv_goto (tgt := 17) hx hb (dk DL_log 8 rfl) (by decide) ?_
  refine lv_iconst (v := (0 : Int32)) hx hb (dk DL_log 12 rfl) (by decide) ?_
  exact w_ret C hrt hR rfl rfl (dk DL_log 13 rfl)
set_option maxRecDepth 20000 in
theorem W_log_4 (l : Launch) (hl0 : l.stackTraces = false) (G : GG) (a1 : Int32) (a2 : Int32) (m0 : Mem) (m1 : Mem) (hF : F_T_log a1 a2 m0 = some (.inl 4, m1)) : Wt l G yL_log cL_log 5 [(0, 10, 13, 34)] 9 [.ref (G.2.1 + 0), .int a1, .int a2, .ref (G.2.1 + 91)] m0 (.inl 4) 1 m1 := by
  refine Wt_of hl0 (by decide) (Nat.le_of_ble_eq_true rfl) ?_
  intro p e s mid args below meth c ls C hN hrt htab hl hR
  have hx := C.1.1
  have hb := C.1.2.1
  have hl : lv_has ls 5 [(0, .ref (G.2.1 + 0)), (1, .int a1), (2, .int a2), (3, .ref (G.2.1 + 91))] := hl
  refine lv_aload_n hx hb (dk DL_log 0 rfl) rfl (lv_at hl 3 rfl) ?_
  refine lv_iconst (v := (0 : Int32)) hx hb (dk DL_log 1 rfl) (by decide) ?_
  refine lv_aload_n hx hb (dk DL_log 2 rfl) rfl (lv_at hl 0 rfl) ?_
  refine lv_iload_n hx hb (dk DL_log 3 rfl) rfl (lv_at hl 1 rfl) ?_
  refine lv_iload_n hx hb (dk DL_log 4 rfl) rfl (lv_at hl 2 rfl) ?_
  have hM := C_T_log l hl0 G a1 a2 m0 (Sum.inl 4) m1 hF
  rw [show ouI (Sum.inl 4) = (Sum.inl 4 : Ou) from rfl] at hM
  refine x_thr hR (x_runV (As := [.int a1, .int a2]) (rest := [.int (0 : Int32), .ref (G.2.1 + 91)]) C hR hM (by decide) (by decide) ob0 rfl wL_149 rfl rfl (Nat.le_of_ble_eq_true rfl) hl.1 ⟨Nat.le_refl 1, Nat.le_refl 6⟩ (dk DL_log 5 rfl)) (fun H locs ce q hR h3 h4 h5 => ?_)
  refine w_catch (pre := []) (suf := []) (a := 0) (b := 10) (h := 13) (ct := 34) (k := 4) C hN htab rfl (by decide) (fun z hz => nomatch hz) rfl (by decide) (gd q1165 rfl) h3 h4 h5 ?_
  refine lv_astore (lv' := [(4, .ref q), (0, .ref (G.2.1 + 0)), (1, .int a1), (2, .int a2), (3, .ref (G.2.1 + 91))]) hx hb (dk DL_log 9 rfl) hl (by decide) rfl (fun ls hl => ?_)
  refine lv_iconst (v := (1 : Int32)) hx hb (dk DL_log 10 rfl) (by decide) ?_
  exact w_ret C hrt hR rfl rfl (dk DL_log 11 rfl)
