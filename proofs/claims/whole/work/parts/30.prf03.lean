set_option maxHeartbeats 4000000 in
set_option maxRecDepth 100000 in
theorem C_T_count (l : Launch) (hl0 : l.stackTraces = false) (G : GG) (a1 : Int32) (m0 : Mem) (v : Int32) (m' : Mem) (hF : F_T_count a1 m0 = some (v, m')) : Ct l G mr0 N0 yX10_count cX10_count 2 (some .int) 1 [.ref (G.2.1 + 0), .int a1] m0 (some (.int v)) m' := by
  refine Ct_of hl0 (by decide) (Nat.le_of_ble_eq_true rfl) ?_
  intro p e s mid args below meth c ls C hrt hl hR
  have hx := C.1.1
  have hb := C.1.2.1
  have hl : lv_has ls 2 [(0, .ref (G.2.1 + 0)), (1, .int a1)] := hl
  unfold F_T_count at hF
  refine lv_iload_n hx hb (dk DX10_count 0 rfl) rfl (lv_at hl 1 rfl) ?_
  by_cases d0 : a1 = (0 : Int32)
  · have hF := if_t d0 hF
    refine lv_tableIn (tgt := 60) hx hb (dk DX10_count 1 rfl) (by rw [d0]; decide) (by rw [d0]; decide) (by rw [d0]; rfl) (by decide) ?_
    refine lv_aload_n hx hb (dk DX10_count 2 rfl) rfl (lv_at hl 0 rfl) ?_
    refine gX10_31 C hR ob0 rf0_4 (dk DX10_count 3 rfl) ?_
    refine gX10_167 C hR ob3 (dk DX10_count 4 rfl) ?_
    cases hF
    exact r_iret C hrt hR (dk DX10_count 5 rfl)
  · have hF := if_f d0 hF
    by_cases d1 : a1 = (1 : Int32)
    · have hF := if_t d1 hF
      refine lv_tableIn (tgt := 68) hx hb (dk DX10_count 1 rfl) (by rw [d1]; decide) (by rw [d1]; decide) (by rw [d1]; rfl) (by decide) ?_
      refine lv_aload_n hx hb (dk DX10_count 6 rfl) rfl (lv_at hl 0 rfl) ?_
      refine gX10_31 C hR ob0 rf0_4 (dk DX10_count 7 rfl) ?_
      refine gX10_197 C hR ob3 (dk DX10_count 8 rfl) ?_
      cases hF
      exact r_iret C hrt hR (dk DX10_count 9 rfl)
    · have hF := if_f d1 hF
      by_cases d2 : a1 = (2 : Int32)
      · have hF := if_t d2 hF
        refine lv_tableIn (tgt := 76) hx hb (dk DX10_count 1 rfl) (by rw [d2]; decide) (by rw [d2]; decide) (by rw [d2]; rfl) (by decide) ?_
        refine lv_aload_n hx hb (dk DX10_count 10 rfl) rfl (lv_at hl 0 rfl) ?_
        refine gX10_31 C hR ob0 rf0_4 (dk DX10_count 11 rfl) ?_
        refine gX10_200 C hR ob3 (dk DX10_count 12 rfl) ?_
        cases hF
        exact r_iret C hrt hR (dk DX10_count 13 rfl)
      · have hF := if_f d2 hF
        by_cases d3 : a1 = (3 : Int32)
        · have hF := if_t d3 hF
          refine lv_tableIn (tgt := 84) hx hb (dk DX10_count 1 rfl) (by rw [d3]; decide) (by rw [d3]; decide) (by rw [d3]; rfl) (by decide) ?_
          refine lv_aload_n hx hb (dk DX10_count 14 rfl) rfl (lv_at hl 0 rfl) ?_
          refine gX10_31 C hR ob0 rf0_4 (dk DX10_count 15 rfl) ?_
          refine gX10_116 C hR ob3 (dk DX10_count 16 rfl) ?_
          cases hF
          exact r_iret C hrt hR (dk DX10_count 17 rfl)
        · have hF := if_f d3 hF
          by_cases d4 : a1 = (4 : Int32)
          · have hF := if_t d4 hF
            refine lv_tableIn (tgt := 92) hx hb (dk DX10_count 1 rfl) (by rw [d4]; decide) (by rw [d4]; decide) (by rw [d4]; rfl) (by decide) ?_
            refine lv_aload_n hx hb (dk DX10_count 18 rfl) rfl (lv_at hl 0 rfl) ?_
            refine gX10_31 C hR ob0 rf0_4 (dk DX10_count 19 rfl) ?_
            refine gX10_135 C hR ob3 rf3_11 (dk DX10_count 20 rfl) ?_
            refine gX10_146 C hR ob8 (dk DX10_count 21 rfl) ?_
            cases hF
            exact r_iret C hrt hR (dk DX10_count 22 rfl)
          · have hF := if_f d4 hF
            by_cases d5 : a1 = (5 : Int32)
            · have hF := if_t d5 hF
              refine lv_tableIn (tgt := 103) hx hb (dk DX10_count 1 rfl) (by rw [d5]; decide) (by rw [d5]; decide) (by rw [d5]; rfl) (by decide) ?_
              refine lv_aload_n hx hb (dk DX10_count 23 rfl) rfl (lv_at hl 0 rfl) ?_
              refine gX10_31 C hR ob0 rf0_4 (dk DX10_count 24 rfl) ?_
              refine gX10_96 C hR ob3 rf3_12 (dk DX10_count 25 rfl) ?_
              refine gX10_100 C hR ob12 (dk DX10_count 26 rfl) ?_
              cases hF
              exact r_iret C hrt hR (dk DX10_count 27 rfl)
            · have hF := if_f d5 hF
              by_cases d6 : a1 = (6 : Int32)
              · have hF := if_t d6 hF
                refine lv_tableIn (tgt := 114) hx hb (dk DX10_count 1 rfl) (by rw [d6]; decide) (by rw [d6]; decide) (by rw [d6]; rfl) (by decide) ?_
                refine lv_aload_n hx hb (dk DX10_count 28 rfl) rfl (lv_at hl 0 rfl) ?_
                refine gX10_31 C hR ob0 rf0_4 (dk DX10_count 29 rfl) ?_
                refine gX10_170 C hR ob3 (dk DX10_count 30 rfl) ?_
                cases hF
                exact r_iret C hrt hR (dk DX10_count 31 rfl)
              · have hF := if_f d6 hF
                by_cases d7 : a1 = (7 : Int32)
                · have hF := if_t d7 hF
                  refine lv_tableIn (tgt := 122) hx hb (dk DX10_count 1 rfl) (by rw [d7]; decide) (by rw [d7]; decide) (by rw [d7]; rfl) (by decide) ?_
                  refine lv_aload_n hx hb (dk DX10_count 32 rfl) rfl (lv_at hl 0 rfl) ?_
                  refine gX10_31 C hR ob0 rf0_4 (dk DX10_count 33 rfl) ?_
                  refine gX10_176 C hR ob3 (dk DX10_count 34 rfl) ?_
                  cases hF
                  exact r_iret C hrt hR (dk DX10_count 35 rfl)
                · have hF := if_f d7 hF
                  by_cases d8 : a1 = (8 : Int32)
                  · have hF := if_t d8 hF
                    refine lv_tableIn (tgt := 130) hx hb (dk DX10_count 1 rfl) (by rw [d8]; decide) (by rw [d8]; decide) (by rw [d8]; rfl) (by decide) ?_
                    refine lv_aload_n hx hb (dk DX10_count 36 rfl) rfl (lv_at hl 0 rfl) ?_
                    refine gX10_31 C hR ob0 rf0_4 (dk DX10_count 37 rfl) ?_
                    refine gX10_179 C hR ob3 (dk DX10_count 38 rfl) ?_
                    cases hF
                    exact r_iret C hrt hR (dk DX10_count 39 rfl)
                  · have hF := if_f d8 hF
                    by_cases d9 : a1 = (9 : Int32)
                    · have hF := if_t d9 hF
                      refine lv_tableIn (tgt := 138) hx hb (dk DX10_count 1 rfl) (by rw [d9]; decide) (by rw [d9]; decide) (by rw [d9]; rfl) (by decide) ?_
                      refine lv_aload_n hx hb (dk DX10_count 40 rfl) rfl (lv_at hl 0 rfl) ?_
                      refine gX10_31 C hR ob0 rf0_4 (dk DX10_count 41 rfl) ?_
                      refine gX10_167 C hR ob3 (dk DX10_count 42 rfl) ?_
                      refine lv_aload_n hx hb (dk DX10_count 43 rfl) rfl (lv_at hl 0 rfl) ?_
                      refine gX10_37 C hR ob0 rf0_5 (dk DX10_count 44 rfl) ?_
                      refine gX10_203 C hR ob16 (dk DX10_count 45 rfl) ?_
                      refine lv_isub hx hb (dk DX10_count 46 rfl) ?_
                      cases hF
                      exact r_iret C hrt hR (dk DX10_count 47 rfl)
                    · have hF := if_f d9 hF
                      by_cases d10 : a1 = (10 : Int32)
                      · have hF := if_t d10 hF
                        refine lv_tableIn (tgt := 154) hx hb (dk DX10_count 1 rfl) (by rw [d10]; decide) (by rw [d10]; decide) (by rw [d10]; rfl) (by decide) ?_
                        refine lv_aload_n hx hb (dk DX10_count 48 rfl) rfl (lv_at hl 0 rfl) ?_
                        refine gX10_47 C hR ob0 rf0_7 (dk DX10_count 49 rfl) ?_
                        refine gX10_206 C hR ob20 (dk DX10_count 50 rfl) ?_
                        cases hF
                        exact r_iret C hrt hR (dk DX10_count 51 rfl)
                      · have hF := if_f d10 hF
                        have n0 := i32_ne d0 (z := 0) rfl
                        have n1 := i32_ne d1 (z := 1) rfl
                        have n2 := i32_ne d2 (z := 2) rfl
                        have n3 := i32_ne d3 (z := 3) rfl
                        have n4 := i32_ne d4 (z := 4) rfl
                        have n5 := i32_ne d5 (z := 5) rfl
                        have n6 := i32_ne d6 (z := 6) rfl
                        have n7 := i32_ne d7 (z := 7) rfl
                        have n8 := i32_ne d8 (z := 8) rfl
                        have n9 := i32_ne d9 (z := 9) rfl
                        have n10 := i32_ne d10 (z := 10) rfl
                        refine lv_tableOut (tgt := 162) hx hb (dk DX10_count 1 rfl) (by omega) (by decide) ?_
                        refine lv_iconst (v := (-1 : Int32)) hx hb (dk DX10_count 52 rfl) (by decide) ?_
                        cases hF
                        exact r_iret C hrt hR (dk DX10_count 53 rfl)
set_option maxHeartbeats 4000000 in
set_option maxRecDepth 100000 in
theorem C_Ma_mayDeclare (l : Launch) (hl0 : l.stackTraces = false) (G : GG) (m0 : Mem) (v : Bool) (m' : Mem) (hF : F_Ma_mayDeclare m0 = some (v, m')) : Ct l G mr0 N0 yX5_mayDeclare cX5_mayDeclare 1 (some .boolean) 2 [.ref (G.2.1 + 16)] m0 (some (.int (b2i v))) m' := by
  refine Ct_of hl0 (by decide) (Nat.le_of_ble_eq_true rfl) ?_
  intro p e s mid args below meth c ls C hrt hl hR
  have hx := C.1.1
  have hb := C.1.2.1
  have hl : lv_has ls 1 [(0, .ref (G.2.1 + 16))] := hl
  unfold F_Ma_mayDeclare at hF
  refine lv_aload_n hx hb (dk DX5_mayDeclare 0 rfl) rfl (lv_at hl 0 rfl) ?_
  obtain ⟨zq3, mq1, hzq2, hF⟩ := bnd_ex hF
  refine r_callVi (As := []) (rest := []) C hR (C_Ma_isOn l hl0 G m0 _ _ hzq2) (by decide) (by decide) ob16 rfl wX5_61 rfl rfl (Nat.le_of_ble_eq_true rfl) hl.1 ⟨Nat.zero_le _, Nat.zero_le _⟩ (dk DX5_mayDeclare 1 rfl) (fun H locs hR => ?_)
  refine z_ifeq (tgt := 26) hx hb (dk DX5_mayDeclare 2 rfl) (by decide) (fun c4 => ?_) (fun c4 => ?_)
  · have hF := if_f c4 hF
    refine lv_iconst (v := (0 : Int32)) hx hb (dk DX5_mayDeclare 12 rfl) (by decide) ?_
    cases hF
    exact r_zret C hrt hR (dk DX5_mayDeclare 13 rfl)
  · have hF := if_t c4 hF
    refine lv_aload_n hx hb (dk DX5_mayDeclare 3 rfl) rfl (lv_at hl 0 rfl) ?_
    refine gX5_31 C hR ob16 (dk DX5_mayDeclare 4 rfl) ?_
    refine z_ifne (tgt := 26) hx hb (dk DX5_mayDeclare 5 rfl) (by decide) (fun c11 => ?_) (fun c11 => ?_)
    · have hF := if_t c11 hF
      refine lv_iconst (v := (0 : Int32)) hx hb (dk DX5_mayDeclare 12 rfl) (by decide) ?_
      cases hF
      exact r_zret C hrt hR (dk DX5_mayDeclare 13 rfl)
    · have hF := if_f c11 hF
      refine lv_aload_n hx hb (dk DX5_mayDeclare 6 rfl) rfl (lv_at hl 0 rfl) ?_
      refine gX5_15 C hR ob16 (dk DX5_mayDeclare 7 rfl) ?_
      refine lv_iconst (v := (3 : Int32)) hx hb (dk DX5_mayDeclare 8 rfl) (by decide) ?_
      refine lv_icmp_eq (tgt := 26) hx hb (dk DX5_mayDeclare 9 rfl) (by decide) (fun c19 => ?_) (fun c19 => ?_)
      · have hF := if_t c19 hF
        refine lv_iconst (v := (0 : Int32)) hx hb (dk DX5_mayDeclare 12 rfl) (by decide) ?_
        cases hF
        exact r_zret C hrt hR (dk DX5_mayDeclare 13 rfl)
      · have hF := if_f c19 hF
        refine lv_iconst (v := (1 : Int32)) hx hb (dk DX5_mayDeclare 10 rfl) (by decide) ?_
        refine lv_goto (tgt := 27) hx hb (dk DX5_mayDeclare 11 rfl) (by decide) ?_
        cases hF
        exact r_zret C hrt hR (dk DX5_mayDeclare 13 rfl)
set_option maxHeartbeats 4000000 in
set_option maxRecDepth 100000 in
theorem C_Ma_endByDeclaring (l : Launch) (hl0 : l.stackTraces = false) (G : GG) (a1 : Int32) (m0 : Mem) (v : Unit) (m' : Mem) (hF : F_Ma_endByDeclaring a1 m0 = some (v, m')) : Ct l G mr0 N0 yX5_endByDeclaring cX5_endByDeclaring 2 none 5 [.ref (G.2.1 + 16), .int a1] m0 none m' := by
  refine Ct_of hl0 (by decide) (Nat.le_of_ble_eq_true rfl) ?_
  intro p e s mid args below meth c ls C hrt hl hR
  have hx := C.1.1
  have hb := C.1.2.1
  have hl : lv_has ls 2 [(0, .ref (G.2.1 + 16)), (1, .int a1)] := hl
  unfold F_Ma_endByDeclaring at hF
  refine lv_aload_n hx hb (dk DX5_endByDeclaring 0 rfl) rfl (lv_at hl 0 rfl) ?_
  obtain ⟨uq3, mq1, hzq2, hF⟩ := bnd_ex hF
  refine r_callVv (As := []) (rest := []) C hR (C_Ma_beginNext l hl0 G m0 _ _ hzq2) (by decide) (by decide) ob16 rfl wX5_98 rfl rfl (Nat.le_of_ble_eq_true rfl) hl.1 ⟨Nat.zero_le _, Nat.zero_le _⟩ (dk DX5_endByDeclaring 1 rfl) (fun H locs hR => ?_)
  refine lv_aload_n hx hb (dk DX5_endByDeclaring 2 rfl) rfl (lv_at hl 0 rfl) ?_
  refine lv_iload_n hx hb (dk DX5_endByDeclaring 3 rfl) rfl (lv_at hl 1 rfl) ?_
  obtain ⟨uq6, mq4, hzq5, hF⟩ := bnd_ex hF
  refine r_callVv (As := [.int a1]) (rest := []) C hR (C_Ma_judge l hl0 G a1 mq1 _ _ hzq5) (by decide) (by decide) ob16 rfl wX5_104 rfl rfl (Nat.le_of_ble_eq_true rfl) hl.1 ⟨Nat.zero_le _, Nat.zero_le _⟩ (dk DX5_endByDeclaring 4 rfl) (fun H locs hR => ?_)
  cases hF
  exact r_vret C hrt hR (dk DX5_endByDeclaring 5 rfl)
set_option maxHeartbeats 4000000 in
set_option maxRecDepth 100000 in
theorem C_T_declare (l : Launch) (hl0 : l.stackTraces = false) (G : GG) (m0 : Mem) (v : Nat ⊕ Int32) (m' : Mem) (hF : F_T_declare m0 = some (v, m')) : CtX l G mr0 N0 yX10_declare cX10_declare 2 (some .int) 8 [.ref (G.2.1 + 0)] m0 (ouI v) m' := by
  refine CtX_of hl0 (by decide) (Nat.le_of_ble_eq_true rfl) ?_
  intro p e s mid args below meth c ls C hrt hex hl hR
  have hx := C.1.1
  have hb := C.1.2.1
  have hl : lv_has ls 2 [(0, .ref (G.2.1 + 0))] := hl
  unfold F_T_declare at hF
  refine lv_aload_n hx hb (dk DX10_declare 0 rfl) rfl (lv_at hl 0 rfl) ?_
  refine gX10_37 C hR ob0 rf0_5 (dk DX10_declare 1 rfl) ?_
  obtain ⟨zq3, mq1, hzq2, hF⟩ := bnd_ex hF
  refine r_callVi (As := []) (rest := []) C hR (C_Ma_mayDeclare l hl0 G m0 _ _ hzq2) (by decide) (by decide) ob16 rfl wX10_263 rfl rfl (Nat.le_of_ble_eq_true rfl) hl.1 ⟨Nat.zero_le _, Nat.zero_le _⟩ (dk DX10_declare 2 rfl) (fun H locs hR => ?_)
  refine z_ifne (tgt := 21) hx hb (dk DX10_declare 3 rfl) (by decide) (fun c7 => ?_) (fun c7 => ?_)
  · have hF := if_t c7 hF
    refine lv_aload_n hx hb (dk DX10_declare 9 rfl) rfl (lv_at hl 0 rfl) ?_
    refine gX10_47 C hR ob0 rf0_7 (dk DX10_declare 10 rfl) ?_
    refine lv_aload_n hx hb (dk DX10_declare 11 rfl) rfl (lv_at hl 0 rfl) ?_
    refine gX10_37 C hR ob0 rf0_5 (dk DX10_declare 12 rfl) ?_
    obtain ⟨uq6, mq4, hzq5, hF⟩ := bnd_ex hF
    refine r_callVv (As := [.ref (G.2.1 + 16)]) (rest := []) C hR (C_Pa_remember l hl0 G mq1 _ _ hzq5) (by decide) (by decide) ob20 rfl wX10_240 rfl rfl (Nat.le_of_ble_eq_true rfl) hl.1 ⟨Nat.zero_le _, Nat.zero_le _⟩ (dk DX10_declare 13 rfl) (fun H locs hR => ?_)
    refine lv_aload_n hx hb (dk DX10_declare 14 rfl) rfl (lv_at hl 0 rfl) ?_
    refine gX10_37 C hR ob0 rf0_5 (dk DX10_declare 15 rfl) ?_
    obtain ⟨xq9, mq7, hzq8, hF⟩ := bnd_ex hF
    refine r_callVi (As := []) (rest := []) C hR (C_Ma_batting l hl0 G mq4 _ _ hzq8) (by decide) (by decide) ob16 rfl wX10_219 rfl rfl (Nat.le_of_ble_eq_true rfl) hl.1 ⟨Nat.zero_le _, Nat.zero_le _⟩ (dk DX10_declare 16 rfl) (fun H locs hR => ?_)
    refine lv_istore_n (lv' := [(1, .int xq9), (0, .ref (G.2.1 + 0))]) hx hb (dk DX10_declare 17 rfl) rfl hl (by decide) rfl (fun ls hl => ?_)
    refine lv_aload_n hx hb (dk DX10_declare 18 rfl) rfl (lv_at hl 1 rfl) ?_
    refine gX10_37 C hR ob0 rf0_5 (dk DX10_declare 19 rfl) ?_
    refine lv_aload_n hx hb (dk DX10_declare 20 rfl) rfl (lv_at hl 1 rfl) ?_
    refine gX10_31 C hR ob0 rf0_4 (dk DX10_declare 21 rfl) ?_
    refine gX10_167 C hR ob3 (dk DX10_declare 22 rfl) ?_
    obtain ⟨uq12, mq10, hzq11, hF⟩ := bnd_ex hF
    refine r_callVv (As := [.int (gI mq7 3 0)]) (rest := []) C hR (C_Ma_endByDeclaring l hl0 G (gI mq7 3 0) mq7 _ _ hzq11) (by decide) (by decide) ob16 rfl wX10_268 rfl rfl (Nat.le_of_ble_eq_true rfl) hl.1 ⟨Nat.zero_le _, Nat.zero_le _⟩ (dk DX10_declare 23 rfl) (fun H locs hR => ?_)
    refine lv_aload_n hx hb (dk DX10_declare 24 rfl) rfl (lv_at hl 1 rfl) ?_
    refine gX10_37 C hR ob0 rf0_5 (dk DX10_declare 25 rfl) ?_
    refine lv_iload_n hx hb (dk DX10_declare 26 rfl) rfl (lv_at hl 0 rfl) ?_
    obtain ⟨xq15, mq13, hzq14, hF⟩ := bnd_ex hF
    refine r_callVi (As := [.int xq9]) (rest := []) C hR (C_Ma_leadOf l hl0 G xq9 mq10 _ _ hzq14) (by decide) (by decide) ob16 rfl wX10_257 rfl rfl (Nat.le_of_ble_eq_true rfl) hl.1 ⟨Nat.zero_le _, Nat.zero_le _⟩ (dk DX10_declare 27 rfl) (fun H locs hR => ?_)
    cases hF
    exact x_iret C hrt hR (dk DX10_declare 28 rfl)
  · have hF := if_f c7 hF
    cases hF
    exact r_throwW (d := 8) (k := 0) C hex hR tX10_239 strm_X10_266 (by decide) (Nat.le_of_ble_eq_true rfl) hl.1 (dk DX10_declare 4 rfl) (dk DX10_declare 5 rfl) (dk DX10_declare 6 rfl) (dk DX10_declare 7 rfl) (dk DX10_declare 8 rfl)
set_option maxHeartbeats 4000000 in
set_option maxRecDepth 100000 in
theorem C_Od_chooses (l : Launch) (hl0 : l.stackTraces = false) (G : GG) (a1 : Int32) (a2 : Int32) (a3 : Int32) (a4 : Int32) (m0 : Mem) (v : Bool) (m' : Mem) (hF : F_Od_chooses a1 a2 a3 a4 m0 = some (v, m')) : Ct l G mr0 N0 yX7_chooses cX7_chooses 8 (some .boolean) 291 [.ref (G.2.1 + 2), .int a1, .int a2, .int a3, .int a4] m0 (some (.int (b2i v))) m' := by
  refine Ct_of hl0 (by decide) (Nat.le_of_ble_eq_true rfl) ?_
  intro p e s mid args below meth c ls C hrt hl hR
  have hx := C.1.1
  have hb := C.1.2.1
  have hl : lv_has ls 8 [(0, .ref (G.2.1 + 2)), (1, .int a1), (2, .int a2), (3, .int a3), (4, .int a4)] := hl
  unfold F_Od_chooses at hF
  refine lv_iload_n hx hb (dk DX7_chooses 0 rfl) rfl (lv_at hl 1 rfl) ?_
  refine lv_aload_n hx hb (dk DX7_chooses 1 rfl) rfl (lv_at hl 0 rfl) ?_
  refine gX7_14 C hR ob2 rf2_0 (dk DX7_chooses 2 rfl) ?_
  refine gX7_60 C hR ob3 (dk DX7_chooses 3 rfl) ?_
  refine lv_icmp_ge (tgt := 22) hx hb (dk DX7_chooses 4 rfl) (by decide) (fun c8 => ?_) (fun c8 => ?_)
  · have hF := if_t c8 hF
    refine lv_iconst (v := (0 : Int32)) hx hb (dk DX7_chooses 11 rfl) (by decide) ?_
    cases hF
    exact r_zret C hrt hR (dk DX7_chooses 12 rfl)
  · have hF := if_f c8 hF
    refine lv_aload_n hx hb (dk DX7_chooses 5 rfl) rfl (lv_at hl 0 rfl) ?_
    refine lv_iload_n hx hb (dk DX7_chooses 6 rfl) rfl (lv_at hl 2 rfl) ?_
    refine lv_iload_n hx hb (dk DX7_chooses 7 rfl) rfl (lv_at hl 3 rfl) ?_
    refine lv_iload hx hb (dk DX7_chooses 8 rfl) (lv_at hl 4 rfl) ?_
    obtain ⟨xq3, mq1, hzq2, hF⟩ := bnd_ex hF
    refine r_callVi (As := [.int a2, .int a3, .int a4]) (rest := []) C hR (C_Od_otherChoice l hl0 G a2 a3 a4 m0 _ _ hzq2) (by decide) (by decide) ob2 rfl wX7_84 rfl rfl (Nat.le_of_ble_eq_true rfl) hl.1 ⟨Nat.zero_le _, Nat.zero_le _⟩ (dk DX7_chooses 9 rfl) (fun H locs hR => ?_)
    refine lv_if_ne (tgt := 24) hx hb (dk DX7_chooses 10 rfl) (by decide) (fun c19 => ?_) (fun c19 => ?_)
    · have hF := if_f c19 hF
      refine lv_iload_n hx hb (dk DX7_chooses 13 rfl) rfl (lv_at hl 2 rfl) ?_
      obtain ⟨zq6, mq4, hzq5, hF⟩ := bnd_ex hF
      refine r_callSi (As := [.int a2]) (rest := []) C hR (C_Od_firstBats l hl0 G a2 mq1 _ _ hzq5) (by decide) (by decide) wX7_88 rfl rfl (Nat.le_of_ble_eq_true rfl) hl.1 ⟨Nat.zero_le _, Nat.zero_le _⟩ (dk DX7_chooses 14 rfl) (fun H locs hR => ?_)
      refine lv_istore (lv' := [(5, .int (b2i zq6)), (0, .ref (G.2.1 + 2)), (1, .int a1), (2, .int a2), (3, .int a3), (4, .int a4)]) hx hb (dk DX7_chooses 15 rfl) hl (by decide) rfl (fun ls hl => ?_)
      refine lv_aload_n hx hb (dk DX7_chooses 16 rfl) rfl (lv_at hl 1 rfl) ?_
      refine lv_aload_n hx hb (dk DX7_chooses 17 rfl) rfl (lv_at hl 1 rfl) ?_
      refine lv_iload_n hx hb (dk DX7_chooses 18 rfl) rfl (lv_at hl 2 rfl) ?_
      refine lv_iload_n hx hb (dk DX7_chooses 19 rfl) rfl (lv_at hl 3 rfl) ?_
      refine lv_iload_n hx hb (dk DX7_chooses 20 rfl) rfl (lv_at hl 4 rfl) ?_
      refine lv_iload hx hb (dk DX7_chooses 21 rfl) (lv_at hl 5 rfl) ?_
      obtain ⟨yq9, mq7, hzq8, hF⟩ := bnd_ex hF
      refine r_callVl (As := [.int a1, .int a2, .int a3, .int a4]) (rest := [.ref (G.2.1 + 2)]) C hR (C_Od_waysGoingOn l hl0 G _ (F_Od_waysAt 40) (C_Od_waysAt l hl0 G 40) (by omega) a1 a2 a3 a4 mq4 _ _ hzq8) (by decide) (by decide) ob2 rfl wX7_92 rfl rfl (Nat.le_of_ble_eq_true rfl) hl.1 ⟨Nat.zero_le _, Nat.zero_le _⟩ (dk DX7_chooses 22 rfl) (fun H locs hR => ?_)
      refine lv_iload_n hx hb (dk DX7_chooses 23 rfl) rfl (lv_at hl 2 rfl) ?_
      refine lv_iload hx hb (dk DX7_chooses 24 rfl) (lv_at hl 0 rfl) ?_
      refine lv_aload_n hx hb (dk DX7_chooses 25 rfl) rfl (lv_at hl 1 rfl) ?_
      refine gX7_35 C hR ob2 (dk DX7_chooses 26 rfl) ?_
      obtain ⟨yq12, mq10, hzq11, hF⟩ := bnd_ex hF
      refine r_callVl (As := [.long yq9, .int a1, .int (b2i zq6), .int (gI mq7 2 5)]) (rest := []) C hR (C_Od_valueOf l hl0 G yq9 a1 zq6 (gI mq7 2 5) mq7 _ _ hzq11) (by decide) (by decide) ob2 rfl wX7_95 rfl rfl (Nat.le_of_ble_eq_true rfl) hl.1 ⟨Nat.zero_le _, Nat.zero_le _⟩ (dk DX7_chooses 27 rfl) (fun H locs hR => ?_)
      refine lv_lstore (lv' := [(6, .long yq12), (5, .int (b2i zq6)), (0, .ref (G.2.1 + 2)), (1, .int a1), (2, .int a2), (3, .int a3), (4, .int a4)]) hx hb (dk DX7_chooses 28 rfl) hl (by decide) rfl (fun ls hl => ?_)
      refine lv_aload_n hx hb (dk DX7_chooses 29 rfl) rfl (lv_at hl 2 rfl) ?_
      refine lv_aload_n hx hb (dk DX7_chooses 30 rfl) rfl (lv_at hl 2 rfl) ?_
      refine lv_iload_n hx hb (dk DX7_chooses 31 rfl) rfl (lv_at hl 3 rfl) ?_
      refine lv_iload_n hx hb (dk DX7_chooses 32 rfl) rfl (lv_at hl 4 rfl) ?_
      refine lv_iload_n hx hb (dk DX7_chooses 33 rfl) rfl (lv_at hl 5 rfl) ?_
      refine lv_iload hx hb (dk DX7_chooses 34 rfl) (lv_at hl 6 rfl) ?_
      obtain ⟨yq15, mq13, hzq14, hF⟩ := bnd_ex hF
      refine r_callVl (As := [.int a1, .int a2, .int a3, .int a4]) (rest := [.ref (G.2.1 + 2)]) C hR (C_Od_waysOtherwise l hl0 G _ (F_Od_waysAt 40) (C_Od_waysAt l hl0 G 40) (by omega) a1 a2 a3 a4 mq10 _ _ hzq14) (by decide) (by decide) ob2 rfl wX7_99 rfl rfl (Nat.le_of_ble_eq_true rfl) hl.1 ⟨Nat.zero_le _, Nat.zero_le _⟩ (dk DX7_chooses 35 rfl) (fun H locs hR => ?_)
      refine lv_iload_n hx hb (dk DX7_chooses 36 rfl) rfl (lv_at hl 3 rfl) ?_
      refine lv_iload hx hb (dk DX7_chooses 37 rfl) (lv_at hl 1 rfl) ?_
      refine lv_aload_n hx hb (dk DX7_chooses 38 rfl) rfl (lv_at hl 2 rfl) ?_
      refine gX7_35 C hR ob2 (dk DX7_chooses 39 rfl) ?_
      obtain ⟨yq18, mq16, hzq17, hF⟩ := bnd_ex hF
      refine r_callVl (As := [.long yq15, .int a1, .int (b2i zq6), .int (gI mq13 2 5)]) (rest := []) C hR (C_Od_valueOf l hl0 G yq15 a1 zq6 (gI mq13 2 5) mq13 _ _ hzq17) (by decide) (by decide) ob2 rfl wX7_95 rfl rfl (Nat.le_of_ble_eq_true rfl) hl.1 ⟨Nat.zero_le _, Nat.zero_le _⟩ (dk DX7_chooses 40 rfl) (fun H locs hR => ?_)
      refine lv_lload hx hb (dk DX7_chooses 41 rfl) (lv_at hl 0 rfl) ?_
      refine l_ifle (tgt := 82) hx hb (dk DX7_chooses 42 rfl) (dk DX7_chooses 43 rfl) (by decide) (fun c74 => ?_) (fun c74 => ?_)
      · have hF := if_t c74 hF
        refine lv_iconst (v := (0 : Int32)) hx hb (dk DX7_chooses 46 rfl) (by decide) ?_
        cases hF
        exact r_zret C hrt hR (dk DX7_chooses 47 rfl)
      · have hF := if_f c74 hF
        refine lv_iconst (v := (1 : Int32)) hx hb (dk DX7_chooses 44 rfl) (by decide) ?_
        refine lv_goto (tgt := 83) hx hb (dk DX7_chooses 45 rfl) (by decide) ?_
        cases hF
        exact r_zret C hrt hR (dk DX7_chooses 47 rfl)
    · have hF := if_t c19 hF
      refine lv_iconst (v := (0 : Int32)) hx hb (dk DX7_chooses 11 rfl) (by decide) ?_
      cases hF
      exact r_zret C hrt hR (dk DX7_chooses 12 rfl)
set_option maxHeartbeats 4000000 in
set_option maxRecDepth 100000 in
theorem C_Od_choosesTold (l : Launch) (hl0 : l.stackTraces = false) (G : GG) (a1 : Int32) (a2 : Int32) (a3 : Int32) (a4 : Int32) (m0 : Mem) (v : Bool) (m' : Mem) (hF : F_Od_choosesTold a1 a2 a3 a4 m0 = some (v, m')) : Ct l G mr0 N0 yX7_choosesTold cX7_choosesTold 5 (some .boolean) 292 [.ref (G.2.1 + 2), .int a1, .int a2, .int a3, .int a4] m0 (some (.int (b2i v))) m' := by
  refine Ct_of hl0 (by decide) (Nat.le_of_ble_eq_true rfl) ?_
  intro p e s mid args below meth c ls C hrt hl hR
  have hx := C.1.1
  have hb := C.1.2.1
  have hl : lv_has ls 5 [(0, .ref (G.2.1 + 2)), (1, .int a1), (2, .int a2), (3, .int a3), (4, .int a4)] := hl
  unfold F_Od_choosesTold at hF
  refine lv_aload_n hx hb (dk DX7_choosesTold 0 rfl) rfl (lv_at hl 0 rfl) ?_
  refine lv_iload_n hx hb (dk DX7_choosesTold 1 rfl) rfl (lv_at hl 1 rfl) ?_
  refine lv_iload_n hx hb (dk DX7_choosesTold 2 rfl) rfl (lv_at hl 2 rfl) ?_
  refine lv_iload hx hb (dk DX7_choosesTold 3 rfl) (lv_at hl 4 rfl) ?_
  refine lv_iload_n hx hb (dk DX7_choosesTold 4 rfl) rfl (lv_at hl 2 rfl) ?_
  obtain ⟨zq3, mq1, hzq2, hF⟩ := bnd_ex hF
  refine r_callSi (As := [.int a2]) (rest := [.int a4, .int a2, .int a1, .ref (G.2.1 + 2)]) C hR (C_Od_firstBats l hl0 G a2 m0 _ _ hzq2) (by decide) (by decide) wX7_88 rfl rfl (Nat.le_of_ble_eq_true rfl) hl.1 ⟨Nat.zero_le _, Nat.zero_le _⟩ (dk DX7_choosesTold 5 rfl) (fun H locs hR => ?_)
  obtain ⟨k18_5, ek18_5, hF⟩ := lt_ex hF
  have J18 : ∀ (xq5 : Int32) (mq4 : Mem) (H : Heap) (locs : List Loc) (ls : Array Slot), lv_has ls 5 [] → Rp G mr0 N0 mq4 s H locs → k18_5 xq5 mq4 = some (v, m') → W p l e (rmD 292) s mid args below meth c H locs 0 0 (MQ below (QR G mr0 N0 (some (.int (b2i v))) m') args s 0 0 (fun q => G.2.1 ≤ q)) (F0 mid 18 ls [.int xq5, .int a4, .int a2, .int a1, .ref (G.2.1 + 2)]) := by
    intro xq5 mq4 H locs ls hl hR hF
    rw [ek18_5] at hF
    obtain ⟨zq8, mq6, hzq7, hF⟩ := bnd_ex hF
    refine r_callVi (As := [.int a1, .int a2, .int a4, .int xq5]) (rest := []) C hR (C_Od_chooses l hl0 G a1 a2 a4 xq5 mq4 _ _ hzq7) (by decide) (by decide) ob2 rfl wX7_102 rfl rfl (Nat.le_of_ble_eq_true rfl) hl.1 ⟨Nat.zero_le _, Nat.zero_le _⟩ (dk DX7_choosesTold 11 rfl) (fun H locs hR => ?_)
    cases hF
    exact r_zret C hrt hR (dk DX7_choosesTold 12 rfl)
  refine z_ifeq (tgt := 16) hx hb (dk DX7_choosesTold 6 rfl) (by decide) (fun c9 => ?_) (fun c9 => ?_)
  · have hF := if_f c9 hF
    refine lv_iload_n hx hb (dk DX7_choosesTold 9 rfl) rfl (lv_at hl 3 rfl) ?_
    refine lv_ineg hx hb (dk DX7_choosesTold 10 rfl) ?_
    exact J18 (-a3) mq1 _ _ ls (lv_sub hl [] rfl) hR hF
  · have hF := if_t c9 hF
    refine lv_iload_n hx hb (dk DX7_choosesTold 7 rfl) rfl (lv_at hl 3 rfl) ?_
    refine lv_goto (tgt := 18) hx hb (dk DX7_choosesTold 8 rfl) (by decide) ?_
    exact J18 a3 mq1 _ _ ls (lv_sub hl [] rfl) hR hF
set_option maxHeartbeats 4000000 in
set_option maxRecDepth 100000 in
theorem C_T_declares (l : Launch) (hl0 : l.stackTraces = false) (G : GG) (a1 : Int32) (a2 : Int32) (a3 : Bool) (a4 : Int32) (a5 : Int32) (m0 : Mem) (v : Nat ⊕ Bool) (m' : Mem) (hF : F_T_declares a1 a2 a3 a4 a5 m0 = some (v, m')) : CtX l G mr0 N0 yX10_declares cX10_declares 6 (some .boolean) 293 [.ref (G.2.1 + 0), .int a1, .int a2, .int (b2i a3), .int a4, .int a5] m0 (ouZ v) m' := by
  refine CtX_of hl0 (by decide) (Nat.le_of_ble_eq_true rfl) ?_
  intro p e s mid args below meth c ls C hrt hex hl hR
  have hx := C.1.1
  have hb := C.1.2.1
  have hl : lv_has ls 6 [(0, .ref (G.2.1 + 0)), (1, .int a1), (2, .int a2), (3, .int (b2i a3)), (4, .int a4), (5, .int a5)] := hl
  unfold F_T_declares at hF
  refine lv_aload_n hx hb (dk DX10_declares 0 rfl) rfl (lv_at hl 0 rfl) ?_
  refine lv_iload_n hx hb (dk DX10_declares 1 rfl) rfl (lv_at hl 1 rfl) ?_
  refine lv_iload_n hx hb (dk DX10_declares 2 rfl) rfl (lv_at hl 2 rfl) ?_
  refine lv_iload hx hb (dk DX10_declares 3 rfl) (lv_at hl 4 rfl) ?_
  refine lv_iload hx hb (dk DX10_declares 4 rfl) (lv_at hl 5 rfl) ?_
  rcases bndX_ex hF with ⟨ke, mq1, hzq2, hF⟩ | ⟨uq3, mq1, hzq2, hF⟩
  · have hM := C_T_mustBeState l hl0 G a1 a2 a4 a5 m0 (Sum.inl ke) mq1 hzq2
    rw [show ouV (Sum.inl ke) = (Sum.inl ke : Ou) from rfl] at hM
    cases hF
    exact x_passV (d := 293) (k := ke) (As := [.int a1, .int a2, .int a4, .int a5]) (rest := []) C hex hR hM (by decide) (by decide) ob0 rfl wX10_361 rfl rfl (Nat.le_of_ble_eq_true rfl) hl.1 (dk DX10_declares 5 rfl)
  · have hM := C_T_mustBeState l hl0 G a1 a2 a4 a5 m0 (Sum.inr uq3) mq1 hzq2
    rw [show ouV (Sum.inr uq3) = (Sum.inr none : Ou) from rfl] at hM
    refine x_callVv (As := [.int a1, .int a2, .int a4, .int a5]) (rest := []) C hR hM (by decide) (by decide) ob0 rfl wX10_361 rfl rfl (Nat.le_of_ble_eq_true rfl) hl.1 ⟨Nat.zero_le _, Nat.zero_le _⟩ (dk DX10_declares 5 rfl) (fun H locs hR => ?_)
    refine lv_aload_n hx hb (dk DX10_declares 6 rfl) rfl (lv_at hl 0 rfl) ?_
    refine gX10_23 C hR ob0 rf0_3 (dk DX10_declares 7 rfl) ?_
    refine lv_iconst (v := (0 : Int32)) hx hb (dk DX10_declares 8 rfl) (by decide) ?_
    refine lv_aload_n hx hb (dk DX10_declares 9 rfl) rfl (lv_at hl 0 rfl) ?_
    refine gX10_31 C hR ob0 rf0_4 (dk DX10_declares 10 rfl) ?_
    refine gX10_200 C hR ob3 (dk DX10_declares 11 rfl) ?_
    refine lv_iconst (v := (0 : Int32)) hx hb (dk DX10_declares 12 rfl) (by decide) ?_
    obtain ⟨uq6, mq4, hzq5, hF⟩ := bnd_ex hF
    refine r_callVv (As := [.int (0 : Int32), .int (gI mq1 3 5), .int (b2i false)]) (rest := []) C hR (C_Od_ready l hl0 G (0 : Int32) (gI mq1 3 5) false mq1 _ _ hzq5) (by decide) (by decide) ob2 rfl wX10_327 rfl rfl (Nat.le_of_ble_eq_true rfl) hl.1 ⟨Nat.zero_le _, Nat.zero_le _⟩ (dk DX10_declares 13 rfl) (fun H locs hR => ?_)
    refine lv_iload_n hx hb (dk DX10_declares 14 rfl) rfl (lv_at hl 2 rfl) ?_
    refine lv_iconst (v := (3 : Int32)) hx hb (dk DX10_declares 15 rfl) (by decide) ?_
    refine lv_icmp_eq (tgt := 55) hx hb (dk DX10_declares 16 rfl) (by decide) (fun c28 => ?_) (fun c28 => ?_)
    · have hF := if_t c28 hF
      refine lv_iconst (v := (0 : Int32)) hx hb (dk DX10_declares 29 rfl) (by decide) ?_
      cases hF
      exact x_zret C hrt hR (dk DX10_declares 30 rfl)
    · have hF := if_f c28 hF
      refine lv_aload_n hx hb (dk DX10_declares 17 rfl) rfl (lv_at hl 0 rfl) ?_
      refine gX10_23 C hR ob0 rf0_3 (dk DX10_declares 18 rfl) ?_
      refine lv_iload_n hx hb (dk DX10_declares 19 rfl) rfl (lv_at hl 1 rfl) ?_
      refine lv_iload_n hx hb (dk DX10_declares 20 rfl) rfl (lv_at hl 2 rfl) ?_
      refine lv_iload_n hx hb (dk DX10_declares 21 rfl) rfl (lv_at hl 3 rfl) ?_
      obtain ⟨xq9, mq7, hzq8, hF⟩ := bnd_ex hF
      refine r_callSi (As := [.int a2, .int (b2i a3)]) (rest := [.int a1, .ref (G.2.1 + 2)]) C hR (C_Od_kindOf l hl0 G a2 a3 mq4 _ _ hzq8) (by decide) (by decide) wX10_365 rfl rfl (Nat.le_of_ble_eq_true rfl) hl.1 ⟨Nat.zero_le _, Nat.zero_le _⟩ (dk DX10_declares 22 rfl) (fun H locs hR => ?_)
      refine lv_iload hx hb (dk DX10_declares 23 rfl) (lv_at hl 4 rfl) ?_
      refine lv_iload hx hb (dk DX10_declares 24 rfl) (lv_at hl 5 rfl) ?_
      obtain ⟨zq12, mq10, hzq11, hF⟩ := bnd_ex hF
      refine r_callVi (As := [.int a1, .int xq9, .int a4, .int a5]) (rest := []) C hR (C_Od_choosesTold l hl0 G a1 xq9 a4 a5 mq7 _ _ hzq11) (by decide) (by decide) ob2 rfl wX10_373 rfl rfl (Nat.le_of_ble_eq_true rfl) hl.1 ⟨Nat.zero_le _, Nat.zero_le _⟩ (dk DX10_declares 25 rfl) (fun H locs hR => ?_)
      refine z_ifeq (tgt := 55) hx hb (dk DX10_declares 26 rfl) (by decide) (fun c48 => ?_) (fun c48 => ?_)
      · have hF := if_f c48 hF
        refine lv_iconst (v := (0 : Int32)) hx hb (dk DX10_declares 29 rfl) (by decide) ?_
        cases hF
        exact x_zret C hrt hR (dk DX10_declares 30 rfl)
      · have hF := if_t c48 hF
        refine lv_iconst (v := (1 : Int32)) hx hb (dk DX10_declares 27 rfl) (by decide) ?_
        refine lv_goto (tgt := 56) hx hb (dk DX10_declares 28 rfl) (by decide) ?_
        cases hF
        exact x_zret C hrt hR (dk DX10_declares 30 rfl)
set_option maxHeartbeats 4000000 in
set_option maxRecDepth 100000 in
theorem C_T_end (l : Launch) (hl0 : l.stackTraces = false) (G : GG) (a1 : Int32) (m0 : Mem) (v : Bool) (m' : Mem) (hF : F_T_end a1 m0 = some (v, m')) : Ct l G mr0 N0 yX10_end cX10_end 2 (some .boolean) 1 [.ref (G.2.1 + 0), .int a1] m0 (some (.int (b2i v))) m' := by
  refine Ct_of hl0 (by decide) (Nat.le_of_ble_eq_true rfl) ?_
  intro p e s mid args below meth c ls C hrt hl hR
  have hx := C.1.1
  have hb := C.1.2.1
  have hl : lv_has ls 2 [(0, .ref (G.2.1 + 0)), (1, .int a1)] := hl
  unfold F_T_end at hF
  refine lv_iload_n hx hb (dk DX10_end 0 rfl) rfl (lv_at hl 1 rfl) ?_
  refine lv_if_lt (tgt := 12) hx hb (dk DX10_end 1 rfl) (by decide) (fun c1 => ?_) (fun c1 => ?_)
  · have hF := if_t c1 hF
    refine lv_iconst (v := (0 : Int32)) hx hb (dk DX10_end 6 rfl) (by decide) ?_
    cases hF
    exact r_zret C hrt hR (dk DX10_end 7 rfl)
  · have hF := if_f c1 hF
    refine lv_iload_n hx hb (dk DX10_end 2 rfl) rfl (lv_at hl 1 rfl) ?_
    refine lv_aload_n hx hb (dk DX10_end 3 rfl) rfl (lv_at hl 0 rfl) ?_
    refine gX10_13 C hR ob0 (dk DX10_end 4 rfl) ?_
    refine lv_icmp_le (tgt := 14) hx hb (dk DX10_end 5 rfl) (by decide) (fun c9 => ?_) (fun c9 => ?_)
    · have hF := if_t c9 hF
      refine lv_aload_n hx hb (dk DX10_end 8 rfl) rfl (lv_at hl 0 rfl) ?_
      refine lv_iload_n hx hb (dk DX10_end 9 rfl) rfl (lv_at hl 1 rfl) ?_
      refine pX10_13 (x := a1) C hR ob0 (dk DX10_end 10 rfl) (fun H locs hR => ?_)
      obtain ⟨mq1, emq1, hF⟩ := lt_ex hF
      have hR := Rp_at emq1 hR
      refine lv_iconst (v := (1 : Int32)) hx hb (dk DX10_end 11 rfl) (by decide) ?_
      cases hF
      exact r_zret C hrt hR (dk DX10_end 12 rfl)
    · have hF := if_f c9 hF
      refine lv_iconst (v := (0 : Int32)) hx hb (dk DX10_end 6 rfl) (by decide) ?_
      cases hF
      exact r_zret C hrt hR (dk DX10_end 7 rfl)
set_option maxHeartbeats 4000000 in
set_option maxRecDepth 100000 in
theorem C_T_enforces (l : Launch) (hl0 : l.stackTraces = false) (G : GG) (a1 : Int32) (a2 : Int32) (m0 : Mem) (v : Nat ⊕ Bool) (m' : Mem) (hF : F_T_enforces a1 a2 m0 = some (v, m')) : CtX l G mr0 N0 yX10_enforces cX10_enforces 3 (some .boolean) 292 [.ref (G.2.1 + 0), .int a1, .int a2] m0 (ouZ v) m' := by
  refine CtX_of hl0 (by decide) (Nat.le_of_ble_eq_true rfl) ?_
  intro p e s mid args below meth c ls C hrt hex hl hR
  have hx := C.1.1
  have hb := C.1.2.1
  have hl : lv_has ls 3 [(0, .ref (G.2.1 + 0)), (1, .int a1), (2, .int a2)] := hl
  unfold F_T_enforces at hF
  refine lv_aload_n hx hb (dk DX10_enforces 0 rfl) rfl (lv_at hl 0 rfl) ?_
  refine lv_iload_n hx hb (dk DX10_enforces 1 rfl) rfl (lv_at hl 1 rfl) ?_
  refine lv_iconst (v := (2 : Int32)) hx hb (dk DX10_enforces 2 rfl) (by decide) ?_
  refine lv_iload_n hx hb (dk DX10_enforces 3 rfl) rfl (lv_at hl 2 rfl) ?_
  refine lv_iconst (v := (0 : Int32)) hx hb (dk DX10_enforces 4 rfl) (by decide) ?_
  rcases bndX_ex hF with ⟨ke, mq1, hzq2, hF⟩ | ⟨uq3, mq1, hzq2, hF⟩
  · have hM := C_T_mustBeState l hl0 G a1 (2 : Int32) a2 (0 : Int32) m0 (Sum.inl ke) mq1 hzq2
    rw [show ouV (Sum.inl ke) = (Sum.inl ke : Ou) from rfl] at hM
    cases hF
    exact x_passV (d := 292) (k := ke) (As := [.int a1, .int (2 : Int32), .int a2, .int (0 : Int32)]) (rest := []) C hex hR hM (by decide) (by decide) ob0 rfl wX10_361 rfl rfl (Nat.le_of_ble_eq_true rfl) hl.1 (dk DX10_enforces 5 rfl)
  · have hM := C_T_mustBeState l hl0 G a1 (2 : Int32) a2 (0 : Int32) m0 (Sum.inr uq3) mq1 hzq2
    rw [show ouV (Sum.inr uq3) = (Sum.inr none : Ou) from rfl] at hM
    refine x_callVv (As := [.int a1, .int (2 : Int32), .int a2, .int (0 : Int32)]) (rest := []) C hR hM (by decide) (by decide) ob0 rfl wX10_361 rfl rfl (Nat.le_of_ble_eq_true rfl) hl.1 ⟨Nat.zero_le _, Nat.zero_le _⟩ (dk DX10_enforces 5 rfl) (fun H locs hR => ?_)
    refine lv_aload_n hx hb (dk DX10_enforces 6 rfl) rfl (lv_at hl 0 rfl) ?_
    refine gX10_23 C hR ob0 rf0_3 (dk DX10_enforces 7 rfl) ?_
    refine lv_iconst (v := (0 : Int32)) hx hb (dk DX10_enforces 8 rfl) (by decide) ?_
    refine lv_aload_n hx hb (dk DX10_enforces 9 rfl) rfl (lv_at hl 0 rfl) ?_
    refine gX10_31 C hR ob0 rf0_4 (dk DX10_enforces 10 rfl) ?_
    refine gX10_200 C hR ob3 (dk DX10_enforces 11 rfl) ?_
    refine lv_iconst (v := (0 : Int32)) hx hb (dk DX10_enforces 12 rfl) (by decide) ?_
    obtain ⟨uq6, mq4, hzq5, hF⟩ := bnd_ex hF
    refine r_callVv (As := [.int (0 : Int32), .int (gI mq1 3 5), .int (b2i false)]) (rest := []) C hR (C_Od_ready l hl0 G (0 : Int32) (gI mq1 3 5) false mq1 _ _ hzq5) (by decide) (by decide) ob2 rfl wX10_327 rfl rfl (Nat.le_of_ble_eq_true rfl) hl.1 ⟨Nat.zero_le _, Nat.zero_le _⟩ (dk DX10_enforces 13 rfl) (fun H locs hR => ?_)
    refine lv_aload_n hx hb (dk DX10_enforces 14 rfl) rfl (lv_at hl 0 rfl) ?_
    refine gX10_23 C hR ob0 rf0_3 (dk DX10_enforces 15 rfl) ?_
    refine lv_iload_n hx hb (dk DX10_enforces 16 rfl) rfl (lv_at hl 1 rfl) ?_
    refine lv_iconst (v := (2 : Int32)) hx hb (dk DX10_enforces 17 rfl) (by decide) ?_
    refine lv_iconst (v := (0 : Int32)) hx hb (dk DX10_enforces 18 rfl) (by decide) ?_
    obtain ⟨xq9, mq7, hzq8, hF⟩ := bnd_ex hF
    refine r_callSi (As := [.int (2 : Int32), .int (b2i false)]) (rest := [.int a1, .ref (G.2.1 + 2)]) C hR (C_Od_kindOf l hl0 G (2 : Int32) false mq4 _ _ hzq8) (by decide) (by decide) wX10_365 rfl rfl (Nat.le_of_ble_eq_true rfl) hl.1 ⟨Nat.zero_le _, Nat.zero_le _⟩ (dk DX10_enforces 19 rfl) (fun H locs hR => ?_)
    refine lv_bipush (v := (10 : Int32)) hx hb (dk DX10_enforces 20 rfl) (by decide) ?_
    refine lv_iload_n hx hb (dk DX10_enforces 21 rfl) rfl (lv_at hl 2 rfl) ?_
    obtain ⟨zq12, mq10, hzq11, hF⟩ := bnd_ex hF
    refine r_callVi (As := [.int a1, .int xq9, .int (10 : Int32), .int a2]) (rest := []) C hR (C_Od_chooses l hl0 G a1 xq9 (10 : Int32) a2 mq7 _ _ hzq11) (by decide) (by decide) ob2 rfl wX10_377 rfl rfl (Nat.le_of_ble_eq_true rfl) hl.1 ⟨Nat.zero_le _, Nat.zero_le _⟩ (dk DX10_enforces 22 rfl) (fun H locs hR => ?_)
    cases hF
    exact x_zret C hrt hR (dk DX10_enforces 23 rfl)
set_option maxHeartbeats 4000000 in
set_option maxRecDepth 100000 in
theorem C_Od_waysOfNew (l : Launch) (hl0 : l.stackTraces = false) (G : GG) (a1 : Int32) (m0 : Mem) (v : Int64) (m' : Mem) (hF : F_Od_waysOfNew a1 m0 = some (v, m')) : Ct l G mr0 N0 yX7_waysOfNew cX7_waysOfNew 4 (some .long) 286 [.ref (G.2.1 + 2), .int a1] m0 (some (.long v)) m' := by
  refine Ct_of hl0 (by decide) (Nat.le_of_ble_eq_true rfl) ?_
  intro p e s mid args below meth c ls C hrt hl hR
  have hx := C.1.1
  have hb := C.1.2.1
  have hl : lv_has ls 4 [(0, .ref (G.2.1 + 2)), (1, .int a1)] := hl
  unfold F_Od_waysOfNew at hF
  refine lv_iload_n hx hb (dk DX7_waysOfNew 0 rfl) rfl (lv_at hl 1 rfl) ?_
  obtain ⟨k15_2, ek15_2, hF⟩ := lt_ex hF
  have J15 : ∀ (yq2 : Int64) (mq1 : Mem) (H : Heap) (locs : List Loc) (ls : Array Slot), lv_has ls 4 [(0, .ref (G.2.1 + 2)), (1, .int a1)] → Rp G mr0 N0 mq1 s H locs → k15_2 yq2 mq1 = some (v, m') → W p l e (rmD 286) s mid args below meth c H locs 0 0 (MQ below (QR G mr0 N0 (some (.long v)) m') args s 0 0 (fun q => G.2.1 ≤ q)) (F0 mid 15 ls [.long yq2]) := by
    intro yq2 mq1 H locs ls hl hR hF
    rw [ek15_2] at hF
    refine lv_lstore_n (lv' := [(2, .long yq2), (0, .ref (G.2.1 + 2)), (1, .int a1)]) hx hb (dk DX7_waysOfNew 7 rfl) rfl hl (by decide) rfl (fun ls hl => ?_)
    refine lv_lload_n hx hb (dk DX7_waysOfNew 8 rfl) rfl (lv_at hl 0 rfl) ?_
    refine lv_ldc2 (v := (-1 : Int64)) hx hb C.1.2.2.2.1 (C.1.2.2.2.2 _ (gd q285 rfl)) (dk DX7_waysOfNew 9 rfl) ?_
    refine l_ifne (tgt := 64) hx hb (dk DX7_waysOfNew 10 rfl) (dk DX7_waysOfNew 11 rfl) (by decide) (fun c20 => ?_) (fun c20 => ?_)
    · have hF := if_f c20 hF
      refine lv_lload_n hx hb (dk DX7_waysOfNew 35 rfl) rfl (lv_at hl 0 rfl) ?_
      cases hF
      exact r_lret C hrt hR (dk DX7_waysOfNew 36 rfl)
    · have hF := if_t c20 hF
      refine lv_aload_n hx hb (dk DX7_waysOfNew 12 rfl) rfl (lv_at hl 1 rfl) ?_
      refine lv_iload_n hx hb (dk DX7_waysOfNew 13 rfl) rfl (lv_at hl 2 rfl) ?_
      refine lv_aload_n hx hb (dk DX7_waysOfNew 14 rfl) rfl (lv_at hl 1 rfl) ?_
      refine gX7_14 C hR ob2 rf2_0 (dk DX7_waysOfNew 15 rfl) ?_
      refine gX7_51 C hR ob3 (dk DX7_waysOfNew 16 rfl) ?_
      refine lv_iconst (v := (0 : Int32)) hx hb (dk DX7_waysOfNew 17 rfl) (by decide) ?_
      obtain ⟨uq5, mq3, hzq4, hF⟩ := bnd_ex hF
      refine r_callVv (As := [.int a1, .int (gI mq1 3 5), .int (b2i false)]) (rest := []) C hR (C_Od_ready l hl0 G a1 (gI mq1 3 5) false mq1 _ _ hzq4) (by decide) (by decide) ob2 rfl wX7_52 rfl rfl (Nat.le_of_ble_eq_true rfl) hl.1 ⟨Nat.zero_le _, Nat.zero_le _⟩ (dk DX7_waysOfNew 18 rfl) (fun H locs hR => ?_)
      refine lv_aload_n hx hb (dk DX7_waysOfNew 19 rfl) rfl (lv_at hl 1 rfl) ?_
      refine lv_iconst (v := (0 : Int32)) hx hb (dk DX7_waysOfNew 20 rfl) (by decide) ?_
      refine lv_iconst (v := (0 : Int32)) hx hb (dk DX7_waysOfNew 21 rfl) (by decide) ?_
      refine lv_bipush (v := (10 : Int32)) hx hb (dk DX7_waysOfNew 22 rfl) (by decide) ?_
      refine lv_iconst (v := (0 : Int32)) hx hb (dk DX7_waysOfNew 23 rfl) (by decide) ?_
      obtain ⟨yq8, mq6, hzq7, hF⟩ := bnd_ex hF
      refine r_callVl (As := [.int (0 : Int32), .int (0 : Int32), .int (10 : Int32), .int (0 : Int32)]) (rest := []) C hR (C_Od_waysAt l hl0 G 40 (0 : Int32) (0 : Int32) (10 : Int32) (0 : Int32) mq3 _ _ hzq7) (by decide) (by decide) ob2 rfl wX7_56 rfl rfl (Nat.le_of_ble_eq_true rfl) hl.1 ⟨Nat.zero_le _, Nat.zero_le _⟩ (dk DX7_waysOfNew 24 rfl) (fun H locs hR => ?_)
      refine lv_lstore_n (lv' := [(2, .long yq8), (0, .ref (G.2.1 + 2)), (1, .int a1)]) hx hb (dk DX7_waysOfNew 25 rfl) rfl hl (by decide) rfl (fun ls hl => ?_)
      refine lv_iload_n hx hb (dk DX7_waysOfNew 26 rfl) rfl (lv_at hl 2 rfl) ?_
      refine lv_if_ne (tgt := 59) hx hb (dk DX7_waysOfNew 27 rfl) (by decide) (fun c48 => ?_) (fun c48 => ?_)
      · have hF := if_f c48 hF
        refine lv_aload_n hx hb (dk DX7_waysOfNew 32 rfl) rfl (lv_at hl 1 rfl) ?_
        refine lv_lload_n hx hb (dk DX7_waysOfNew 33 rfl) rfl (lv_at hl 0 rfl) ?_
        refine pX7_46 (x := yq8) C hR ob2 (dk DX7_waysOfNew 34 rfl) (fun H locs hR => ?_)
        obtain ⟨mq9, emq9, hF⟩ := lt_ex hF
        have hR := Rp_at emq9 hR
        refine lv_lload_n hx hb (dk DX7_waysOfNew 35 rfl) rfl (lv_at hl 0 rfl) ?_
        cases hF
        exact r_lret C hrt hR (dk DX7_waysOfNew 36 rfl)
      · have hF := if_t c48 hF
        refine lv_aload_n hx hb (dk DX7_waysOfNew 28 rfl) rfl (lv_at hl 1 rfl) ?_
        refine lv_lload_n hx hb (dk DX7_waysOfNew 29 rfl) rfl (lv_at hl 0 rfl) ?_
        refine pX7_43 (x := yq8) C hR ob2 (dk DX7_waysOfNew 30 rfl) (fun H locs hR => ?_)
        obtain ⟨mq10, emq10, hF⟩ := lt_ex hF
        have hR := Rp_at emq10 hR
        refine lv_goto (tgt := 64) hx hb (dk DX7_waysOfNew 31 rfl) (by decide) ?_
        refine lv_lload_n hx hb (dk DX7_waysOfNew 35 rfl) rfl (lv_at hl 0 rfl) ?_
        cases hF
        exact r_lret C hrt hR (dk DX7_waysOfNew 36 rfl)
  refine lv_if_ne (tgt := 11) hx hb (dk DX7_waysOfNew 1 rfl) (by decide) (fun c1 => ?_) (fun c1 => ?_)
  · have hF := if_f c1 hF
    refine lv_aload_n hx hb (dk DX7_waysOfNew 5 rfl) rfl (lv_at hl 0 rfl) ?_
    refine gX7_46 C hR ob2 (dk DX7_waysOfNew 6 rfl) ?_
    exact J15 (gL m0 2 8) m0 _ _ ls (lv_sub hl [0, 1] rfl) hR hF
  · have hF := if_t c1 hF
    refine lv_aload_n hx hb (dk DX7_waysOfNew 2 rfl) rfl (lv_at hl 0 rfl) ?_
    refine gX7_43 C hR ob2 (dk DX7_waysOfNew 3 rfl) ?_
    refine lv_goto (tgt := 15) hx hb (dk DX7_waysOfNew 4 rfl) (by decide) ?_
    exact J15 (gL m0 2 7) m0 _ _ ls (lv_sub hl [0, 1] rfl) hR hF
set_option maxHeartbeats 4000000 in
set_option maxRecDepth 100000 in
theorem C_T_tossValue (l : Launch) (hl0 : l.stackTraces = false) (G : GG) (a1 : Int32) (a2 : Int32) (m0 : Mem) (v : Int64) (m' : Mem) (hF : F_T_tossValue a1 a2 m0 = some (v, m')) : Ct l G mr0 N0 yX10_tossValue cX10_tossValue 3 (some .long) 287 [.ref (G.2.1 + 0), .int a1, .int a2] m0 (some (.long v)) m' := by
  refine Ct_of hl0 (by decide) (Nat.le_of_ble_eq_true rfl) ?_
  intro p e s mid args below meth c ls C hrt hl hR
  have hx := C.1.1
  have hb := C.1.2.1
  have hl : lv_has ls 3 [(0, .ref (G.2.1 + 0)), (1, .int a1), (2, .int a2)] := hl
  unfold F_T_tossValue at hF
  refine lv_aload_n hx hb (dk DX10_tossValue 0 rfl) rfl (lv_at hl 0 rfl) ?_
  refine gX10_23 C hR ob0 rf0_3 (dk DX10_tossValue 1 rfl) ?_
  refine lv_aload_n hx hb (dk DX10_tossValue 2 rfl) rfl (lv_at hl 0 rfl) ?_
  refine gX10_23 C hR ob0 rf0_3 (dk DX10_tossValue 3 rfl) ?_
  refine lv_iload_n hx hb (dk DX10_tossValue 4 rfl) rfl (lv_at hl 2 rfl) ?_
  obtain ⟨yq3, mq1, hzq2, hF⟩ := bnd_ex hF
  refine r_callVl (As := [.int a2]) (rest := [.ref (G.2.1 + 2)]) C hR (C_Od_waysOfNew l hl0 G a2 m0 _ _ hzq2) (by decide) (by decide) ob2 rfl wX10_439 rfl rfl (Nat.le_of_ble_eq_true rfl) hl.1 ⟨Nat.zero_le _, Nat.zero_le _⟩ (dk DX10_tossValue 5 rfl) (fun H locs hR => ?_)
  refine lv_iconst (v := (0 : Int32)) hx hb (dk DX10_tossValue 6 rfl) (by decide) ?_
  refine lv_iload_n hx hb (dk DX10_tossValue 7 rfl) rfl (lv_at hl 1 rfl) ?_
  refine lv_iload_n hx hb (dk DX10_tossValue 8 rfl) rfl (lv_at hl 2 rfl) ?_
  obtain ⟨k23_5, ek23_5, hF⟩ := lt_ex hF
  have J23 : ∀ (zq5 : Bool) (mq4 : Mem) (H : Heap) (locs : List Loc) (ls : Array Slot), lv_has ls 3 [(0, .ref (G.2.1 + 0))] → Rp G mr0 N0 mq4 s H locs → k23_5 zq5 mq4 = some (v, m') → W p l e (rmD 287) s mid args below meth c H locs 0 0 (MQ below (QR G mr0 N0 (some (.long v)) m') args s 0 0 (fun q => G.2.1 ≤ q)) (F0 mid 23 ls [.int (b2i zq5), .int (0 : Int32), .long yq3, .ref (G.2.1 + 2)]) := by
    intro zq5 mq4 H locs ls hl hR hF
    rw [ek23_5] at hF
    refine lv_aload_n hx hb (dk DX10_tossValue 13 rfl) rfl (lv_at hl 0 rfl) ?_
    refine gX10_31 C hR ob0 rf0_4 (dk DX10_tossValue 14 rfl) ?_
    refine gX10_200 C hR ob3 (dk DX10_tossValue 15 rfl) ?_
    obtain ⟨yq8, mq6, hzq7, hF⟩ := bnd_ex hF
    refine r_callVl (As := [.long yq3, .int (0 : Int32), .int (b2i zq5), .int (gI mq4 3 5)]) (rest := []) C hR (C_Od_valueOf l hl0 G yq3 (0 : Int32) zq5 (gI mq4 3 5) mq4 _ _ hzq7) (by decide) (by decide) ob2 rfl wX10_310 rfl rfl (Nat.le_of_ble_eq_true rfl) hl.1 ⟨Nat.zero_le _, Nat.zero_le _⟩ (dk DX10_tossValue 16 rfl) (fun H locs hR => ?_)
    cases hF
    exact r_lret C hrt hR (dk DX10_tossValue 17 rfl)
  refine lv_icmp_ne (tgt := 22) hx hb (dk DX10_tossValue 9 rfl) (by decide) (fun c15 => ?_) (fun c15 => ?_)
  · have hF := if_f c15 hF
    refine lv_iconst (v := (0 : Int32)) hx hb (dk DX10_tossValue 12 rfl) (by decide) ?_
    exact J23 false mq1 _ _ ls (lv_sub hl [0] rfl) hR hF
  · have hF := if_t c15 hF
    refine lv_iconst (v := (1 : Int32)) hx hb (dk DX10_tossValue 10 rfl) (by decide) ?_
    refine lv_goto (tgt := 23) hx hb (dk DX10_tossValue 11 rfl) (by decide) ?_
    exact J23 true mq1 _ _ ls (lv_sub hl [0] rfl) hR hF
set_option maxHeartbeats 4000000 in
set_option maxRecDepth 100000 in
theorem C_T_leftValue (l : Launch) (hl0 : l.stackTraces = false) (G : GG) (a1 : Int32) (m0 : Mem) (v : Int64) (m' : Mem) (hF : F_T_leftValue a1 m0 = some (v, m')) : Ct l G mr0 N0 yX10_leftValue cX10_leftValue 4 (some .long) 288 [.ref (G.2.1 + 0), .int a1] m0 (some (.long v)) m' := by
  refine Ct_of hl0 (by decide) (Nat.le_of_ble_eq_true rfl) ?_
  intro p e s mid args below meth c ls C hrt hl hR
  have hx := C.1.1
  have hb := C.1.2.1
  have hl : lv_has ls 4 [(0, .ref (G.2.1 + 0)), (1, .int a1)] := hl
  unfold F_T_leftValue at hF
  refine lv_iconst (v := (1 : Int32)) hx hb (dk DX10_leftValue 0 rfl) (by decide) ?_
  refine lv_iload_n hx hb (dk DX10_leftValue 1 rfl) rfl (lv_at hl 1 rfl) ?_
  refine lv_isub hx hb (dk DX10_leftValue 2 rfl) ?_
  refine lv_topi (fun xq1 exq1 => ?_)
  have hF := lt_at exq1 hF
  refine lv_istore_n (lv' := [(2, .int xq1), (0, .ref (G.2.1 + 0)), (1, .int a1)]) hx hb (dk DX10_leftValue 3 rfl) rfl hl (by decide) rfl (fun ls hl => ?_)
  refine lv_aload_n hx hb (dk DX10_leftValue 4 rfl) rfl (lv_at hl 1 rfl) ?_
  refine lv_iload_n hx hb (dk DX10_leftValue 5 rfl) rfl (lv_at hl 0 rfl) ?_
  refine lv_iload_n hx hb (dk DX10_leftValue 6 rfl) rfl (lv_at hl 0 rfl) ?_
  obtain ⟨yq4, mq2, hzq3, hF⟩ := bnd_ex hF
  refine r_callVl (As := [.int xq1, .int xq1]) (rest := []) C hR (C_T_tossValue l hl0 G xq1 xq1 m0 _ _ hzq3) (by decide) (by decide) ob0 rfl wX10_344 rfl rfl (Nat.le_of_ble_eq_true rfl) hl.1 ⟨Nat.zero_le _, Nat.zero_le _⟩ (dk DX10_leftValue 7 rfl) (fun H locs hR => ?_)
  refine lv_aload_n hx hb (dk DX10_leftValue 8 rfl) rfl (lv_at hl 1 rfl) ?_
  refine lv_iload_n hx hb (dk DX10_leftValue 9 rfl) rfl (lv_at hl 0 rfl) ?_
  refine lv_iload_n hx hb (dk DX10_leftValue 10 rfl) rfl (lv_at hl 2 rfl) ?_
  obtain ⟨yq7, mq5, hzq6, hF⟩ := bnd_ex hF
  refine r_callVl (As := [.int xq1, .int a1]) (rest := [.long yq4]) C hR (C_T_tossValue l hl0 G xq1 a1 mq2 _ _ hzq6) (by decide) (by decide) ob0 rfl wX10_344 rfl rfl (Nat.le_of_ble_eq_true rfl) hl.1 ⟨Nat.zero_le _, Nat.zero_le _⟩ (dk DX10_leftValue 11 rfl) (fun H locs hR => ?_)
  obtain ⟨k25_9, ek25_9, hF⟩ := lt_ex hF
  have J25 : ∀ (zq9 : Bool) (mq8 : Mem) (H : Heap) (locs : List Loc) (ls : Array Slot), lv_has ls 4 [(0, .ref (G.2.1 + 0)), (1, .int a1), (2, .int xq1)] → Rp G mr0 N0 mq8 s H locs → k25_9 zq9 mq8 = some (v, m') → W p l e (rmD 288) s mid args below meth c H locs 0 0 (MQ below (QR G mr0 N0 (some (.long v)) m') args s 0 0 (fun q => G.2.1 ≤ q)) (F0 mid 25 ls [.int (b2i zq9)]) := by
    intro zq9 mq8 H locs ls hl hR hF
    rw [ek25_9] at hF
    refine lv_istore_n (lv' := [(3, .int (b2i zq9)), (0, .ref (G.2.1 + 0)), (1, .int a1), (2, .int xq1)]) hx hb (dk DX10_leftValue 17 rfl) rfl hl (by decide) rfl (fun ls hl => ?_)
    refine lv_aload_n hx hb (dk DX10_leftValue 18 rfl) rfl (lv_at hl 1 rfl) ?_
    refine lv_iload_n hx hb (dk DX10_leftValue 19 rfl) rfl (lv_at hl 2 rfl) ?_
    refine lv_iload_n hx hb (dk DX10_leftValue 20 rfl) rfl (lv_at hl 0 rfl) ?_
    obtain ⟨k37_11, ek37_11, hF⟩ := lt_ex hF
    have J37 : ∀ (xq11 : Int32) (mq10 : Mem) (H : Heap) (locs : List Loc) (ls : Array Slot), lv_has ls 4 [] → Rp G mr0 N0 mq10 s H locs → k37_11 xq11 mq10 = some (v, m') → W p l e (rmD 288) s mid args below meth c H locs 0 0 (MQ below (QR G mr0 N0 (some (.long v)) m') args s 0 0 (fun q => G.2.1 ≤ q)) (F0 mid 37 ls [.int xq11, .int a1, .ref (G.2.1 + 0)]) := by
      intro xq11 mq10 H locs ls hl hR hF
      rw [ek37_11] at hF
      obtain ⟨yq14, mq12, hzq13, hF⟩ := bnd_ex hF
      refine r_callVl (As := [.int a1, .int xq11]) (rest := []) C hR (C_T_tossValue l hl0 G a1 xq11 mq10 _ _ hzq13) (by decide) (by decide) ob0 rfl wX10_344 rfl rfl (Nat.le_of_ble_eq_true rfl) hl.1 ⟨Nat.zero_le _, Nat.zero_le _⟩ (dk DX10_leftValue 25 rfl) (fun H locs hR => ?_)
      cases hF
      exact r_lret C hrt hR (dk DX10_leftValue 26 rfl)
    refine z_ifeq (tgt := 36) hx hb (dk DX10_leftValue 21 rfl) (by decide) (fun c29 => ?_) (fun c29 => ?_)
    · have hF := if_f c29 hF
      refine lv_iload_n hx hb (dk DX10_leftValue 24 rfl) rfl (lv_at hl 2 rfl) ?_
      exact J37 a1 mq8 _ _ ls (lv_sub hl [] rfl) hR hF
    · have hF := if_t c29 hF
      refine lv_iload_n hx hb (dk DX10_leftValue 22 rfl) rfl (lv_at hl 3 rfl) ?_
      refine lv_goto (tgt := 37) hx hb (dk DX10_leftValue 23 rfl) (by decide) ?_
      exact J37 xq1 mq8 _ _ ls (lv_sub hl [] rfl) hR hF
  refine l_iflt (tgt := 24) hx hb (dk DX10_leftValue 12 rfl) (dk DX10_leftValue 13 rfl) (by decide) (fun c16 => ?_) (fun c16 => ?_)
  · have hF := if_t c16 hF
    refine lv_iconst (v := (0 : Int32)) hx hb (dk DX10_leftValue 16 rfl) (by decide) ?_
    exact J25 false mq5 _ _ ls (lv_sub hl [1, 2, 0] rfl) hR hF
  · have hF := if_f c16 hF
    refine lv_iconst (v := (1 : Int32)) hx hb (dk DX10_leftValue 14 rfl) (by decide) ?_
    refine lv_goto (tgt := 25) hx hb (dk DX10_leftValue 15 rfl) (by decide) ?_
    exact J25 true mq5 _ _ ls (lv_sub hl [1, 2, 0] rfl) hR hF
set_option maxHeartbeats 4000000 in
set_option maxRecDepth 100000 in
theorem C_T_evens (l : Launch) (hl0 : l.stackTraces = false) (G : GG) (a1 : Int32) (m0 : Mem) (v : Nat ⊕ Int64) (m' : Mem) (hF : F_T_evens a1 m0 = some (v, m')) : CtX l G mr0 N0 yX10_evens cX10_evens 2 (some .long) 289 [.ref (G.2.1 + 0), .int a1] m0 (ouL v) m' := by
  refine CtX_of hl0 (by decide) (Nat.le_of_ble_eq_true rfl) ?_
  intro p e s mid args below meth c ls C hrt hex hl hR
  have hx := C.1.1
  have hb := C.1.2.1
  have hl : lv_has ls 2 [(0, .ref (G.2.1 + 0)), (1, .int a1)] := hl
  unfold F_T_evens at hF
  refine lv_aload_n hx hb (dk DX10_evens 0 rfl) rfl (lv_at hl 0 rfl) ?_
  refine lv_iload_n hx hb (dk DX10_evens 1 rfl) rfl (lv_at hl 1 rfl) ?_
  refine lv_iconst (v := (2 : Int32)) hx hb (dk DX10_evens 2 rfl) (by decide) ?_
  rcases bndX_ex hF with ⟨ke, mq1, hzq2, hF⟩ | ⟨uq3, mq1, hzq2, hF⟩
  · have hM := C_T_mustBeBelow l hl0 G a1 (2 : Int32) m0 (Sum.inl ke) mq1 hzq2
    rw [show ouV (Sum.inl ke) = (Sum.inl ke : Ou) from rfl] at hM
    cases hF
    exact x_passV (d := 289) (k := ke) (As := [.int a1, .int (2 : Int32)]) (rest := []) C hex hR hM (by decide) (by decide) ob0 rfl wX10_149 rfl rfl (Nat.le_of_ble_eq_true rfl) hl.1 (dk DX10_evens 3 rfl)
  · have hM := C_T_mustBeBelow l hl0 G a1 (2 : Int32) m0 (Sum.inr uq3) mq1 hzq2
    rw [show ouV (Sum.inr uq3) = (Sum.inr none : Ou) from rfl] at hM
    refine x_callVv (As := [.int a1, .int (2 : Int32)]) (rest := []) C hR hM (by decide) (by decide) ob0 rfl wX10_149 rfl rfl (Nat.le_of_ble_eq_true rfl) hl.1 ⟨Nat.zero_le _, Nat.zero_le _⟩ (dk DX10_evens 3 rfl) (fun H locs hR => ?_)
    refine lv_aload_n hx hb (dk DX10_evens 4 rfl) rfl (lv_at hl 0 rfl) ?_
    refine lv_iload_n hx hb (dk DX10_evens 5 rfl) rfl (lv_at hl 1 rfl) ?_
    refine lv_iconst (v := (0 : Int32)) hx hb (dk DX10_evens 6 rfl) (by decide) ?_
    obtain ⟨yq6, mq4, hzq5, hF⟩ := bnd_ex hF
    refine r_callVl (As := [.int a1, .int (0 : Int32)]) (rest := []) C hR (C_T_tossValue l hl0 G a1 (0 : Int32) mq1 _ _ hzq5) (by decide) (by decide) ob0 rfl wX10_344 rfl rfl (Nat.le_of_ble_eq_true rfl) hl.1 ⟨Nat.zero_le _, Nat.zero_le _⟩ (dk DX10_evens 7 rfl) (fun H locs hR => ?_)
    refine lv_aload_n hx hb (dk DX10_evens 8 rfl) rfl (lv_at hl 0 rfl) ?_
    refine lv_iload_n hx hb (dk DX10_evens 9 rfl) rfl (lv_at hl 1 rfl) ?_
    refine lv_iconst (v := (1 : Int32)) hx hb (dk DX10_evens 10 rfl) (by decide) ?_
    obtain ⟨yq9, mq7, hzq8, hF⟩ := bnd_ex hF
    refine r_callVl (As := [.int a1, .int (1 : Int32)]) (rest := [.long yq6]) C hR (C_T_tossValue l hl0 G a1 (1 : Int32) mq4 _ _ hzq8) (by decide) (by decide) ob0 rfl wX10_344 rfl rfl (Nat.le_of_ble_eq_true rfl) hl.1 ⟨Nat.zero_le _, Nat.zero_le _⟩ (dk DX10_evens 11 rfl) (fun H locs hR => ?_)
    refine r_mxL C (gd q1390 rfl) (by decide) (Nat.le_of_ble_eq_true rfl) hl.1 ⟨Nat.zero_le _, Nat.zero_le _⟩ (dk DX10_evens 12 rfl) ?_
    refine lv_aload_n hx hb (dk DX10_evens 13 rfl) rfl (lv_at hl 0 rfl) ?_
    refine lv_iload_n hx hb (dk DX10_evens 14 rfl) rfl (lv_at hl 1 rfl) ?_
    obtain ⟨yq12, mq10, hzq11, hF⟩ := bnd_ex hF
    refine r_callVl (As := [.int a1]) (rest := [.long (mxL yq6 yq9)]) C hR (C_T_leftValue l hl0 G a1 mq7 _ _ hzq11) (by decide) (by decide) ob0 rfl wX10_352 rfl rfl (Nat.le_of_ble_eq_true rfl) hl.1 ⟨Nat.zero_le _, Nat.zero_le _⟩ (dk DX10_evens 15 rfl) (fun H locs hR => ?_)
    refine lv_ladd hx hb (dk DX10_evens 16 rfl) ?_
    cases hF
    exact x_lret C hrt hR (dk DX10_evens 17 rfl)
set_option maxHeartbeats 4000000 in
set_option maxRecDepth 100000 in
theorem C_T_fault (l : Launch) (hl0 : l.stackTraces = false) (G : GG) (m0 : Mem) (v : Int32) (m' : Mem) (hF : F_T_fault m0 = some (v, m')) : Ct l G mr0 N0 yX10_fault cX10_fault 1 (some .int) 1 [.ref (G.2.1 + 0)] m0 (some (.int v)) m' := by
  refine Ct_of hl0 (by decide) (Nat.le_of_ble_eq_true rfl) ?_
  intro p e s mid args below meth c ls C hrt hl hR
  have hx := C.1.1
  have hb := C.1.2.1
  have hl : lv_has ls 1 [(0, .ref (G.2.1 + 0))] := hl
  unfold F_T_fault at hF
  refine lv_aload_n hx hb (dk DX10_fault 0 rfl) rfl (lv_at hl 0 rfl) ?_
  refine gX10_17 C hR ob0 (dk DX10_fault 1 rfl) ?_
  cases hF
  exact r_iret C hrt hR (dk DX10_fault 2 rfl)
set_option maxHeartbeats 4000000 in
set_option maxRecDepth 100000 in
theorem C_T_putBytes (l : Launch) (hl0 : l.stackTraces = false) (G : GG) (a1 : Int32) (m0 : Mem) (v : Unit) (m' : Mem) (hF : F_T_putBytes a1 m0 = some (v, m')) : Ct l G mr0 N0 yX10_putBytes cX10_putBytes 3 none 1 [.ref (G.2.1 + 0), .int a1] m0 none m' := by
  refine Ct_of hl0 (by decide) (Nat.le_of_ble_eq_true rfl) ?_
  intro p e s mid args below meth c ls C hrt hl hR
  have hx := C.1.1
  have hb := C.1.2.1
  have hl : lv_has ls 3 [(0, .ref (G.2.1 + 0)), (1, .int a1)] := hl
  unfold F_T_putBytes at hF
  refine lv_bipush (v := (24 : Int32)) hx hb (dk DX10_putBytes 0 rfl) (by decide) ?_
  refine lv_istore_n (lv' := [(2, .int (24 : Int32)), (0, .ref (G.2.1 + 0)), (1, .int a1)]) hx hb (dk DX10_putBytes 1 rfl) rfl hl (by decide) rfl (fun ls hl => ?_)
  have L3 : ∀ (nf : Nat) (xq2 : Int32) (mq1 : Mem) (H : Heap) (locs : List Loc) (ls : Array Slot), lv_has ls 3 [(0, .ref (G.2.1 + 0)), (1, .int a1), (2, .int xq2)] → Rp G mr0 N0 mq1 s H locs → F_T_putBytes_L3 a1 nf xq2 mq1 = some (v, m') → W p l e (rmD 1) s mid args below meth c H locs 0 0 (MQ below (QR G mr0 N0 none m') args s 0 0 (fun q => G.2.1 ≤ q)) (F0 mid 3 ls []) := by
    intro nf
    induction nf with
    | zero =>
      intro xq2 mq1 H locs ls hl hR hF
      rw [F_T_putBytes_L3] at hF
      cases hF
    | succ nf ihq4 =>
      intro xq2 mq1 H locs ls hl hR hF
      rw [F_T_putBytes_L3] at hF
      refine lv_iload_n hx hb (dk DX10_putBytes 2 rfl) rfl (lv_at hl 2 rfl) ?_
      refine lv_if_lt (tgt := 56) hx hb (dk DX10_putBytes 3 rfl) (by decide) (fun c4 => ?_) (fun c4 => ?_)
      · have hF := if_t c4 hF
        cases hF
        exact r_vret C hrt hR (dk DX10_putBytes 29 rfl)
      · have hF := if_f c4 hF
        refine lv_aload_n hx hb (dk DX10_putBytes 4 rfl) rfl (lv_at hl 0 rfl) ?_
        refine gX10_13 C hR ob0 (dk DX10_putBytes 5 rfl) ?_
        obtain ⟨k50_5, ek50_5, hF⟩ := lt_ex hF
        have J50 : ∀ (mq5 : Mem) (H : Heap) (locs : List Loc) (ls : Array Slot), lv_has ls 3 [(0, .ref (G.2.1 + 0)), (1, .int a1), (2, .int xq2)] → Rp G mr0 N0 mq5 s H locs → k50_5  mq5 = some (v, m') → W p l e (rmD 1) s mid args below meth c H locs 0 0 (MQ below (QR G mr0 N0 none m') args s 0 0 (fun q => G.2.1 ≤ q)) (F0 mid 50 ls []) := by
          intro  mq5 H locs ls hl hR hF
          rw [ek50_5] at hF
          obtain ⟨xq6, exq6, hF⟩ := lt_ex hF
          refine lv_iinc (v := xq6) (lv' := [(2, .int xq6), (0, .ref (G.2.1 + 0)), (1, .int a1)]) hx hb (dk DX10_putBytes 27 rfl) hl (k := 2) rfl (by rw [exq6]; rfl) (by decide) rfl (fun ls hl => ?_)
          refine lv_goto (tgt := 3) hx hb (dk DX10_putBytes 28 rfl) (by decide) ?_
          exact ihq4 xq6 mq5 _ _ ls (lv_sub hl [1, 2, 0] rfl) hR hF
        refine lv_if_lt (tgt := 50) hx hb (dk DX10_putBytes 6 rfl) (by decide) (fun c11 => ?_) (fun c11 => ?_)
        · have hF := if_t c11 hF
          exact J50 mq1 _ _ ls (lv_sub hl [0, 1, 2] rfl) hR hF
        · have hF := if_f c11 hF
          refine lv_aload_n hx hb (dk DX10_putBytes 7 rfl) rfl (lv_at hl 0 rfl) ?_
          refine gX10_13 C hR ob0 (dk DX10_putBytes 8 rfl) ?_
          refine lv_sipush (v := (400 : Int32)) hx hb (dk DX10_putBytes 9 rfl) (by decide) ?_
          refine lv_icmp_ge (tgt := 50) hx hb (dk DX10_putBytes 10 rfl) (by decide) (fun c21 => ?_) (fun c21 => ?_)
          · have hF := if_t c21 hF
            exact J50 mq1 _ _ ls (lv_sub hl [0, 1, 2] rfl) hR hF
          · have hF := if_f c21 hF
            refine lv_aload_n hx hb (dk DX10_putBytes 11 rfl) rfl (lv_at hl 0 rfl) ?_
            refine gX10_9 C hR ob0 rf0_0 (dk DX10_putBytes 12 rfl) ?_
            refine lv_aload_n hx hb (dk DX10_putBytes 13 rfl) rfl (lv_at hl 0 rfl) ?_
            refine gX10_13 C hR ob0 (dk DX10_putBytes 14 rfl) ?_
            refine lv_iload_n hx hb (dk DX10_putBytes 15 rfl) rfl (lv_at hl 1 rfl) ?_
            refine lv_iload_n hx hb (dk DX10_putBytes 16 rfl) rfl (lv_at hl 2 rfl) ?_
            refine lv_iushr hx hb (dk DX10_putBytes 17 rfl) rfl ?_
            refine lv_topi (fun xq7 exq7 => ?_)
            have hF := lt_at exq7 hF
            refine lv_sipush (v := (255 : Int32)) hx hb (dk DX10_putBytes 18 rfl) (by decide) ?_
            refine lv_iand hx hb (dk DX10_putBytes 19 rfl) ?_
            obtain ⟨hq9, hF⟩ := ckB_ex hF
            refine r_iast C hR ob1 hq9 (dk DX10_putBytes 20 rfl) (fun H locs hR => ?_)
            obtain ⟨mq8, emq8, hF⟩ := lt_ex hF
            have hR := Rp_at emq8 hR
            refine lv_aload_n hx hb (dk DX10_putBytes 21 rfl) rfl (lv_at hl 0 rfl) ?_
            refine lv_dup hx hb (dk DX10_putBytes 22 rfl) rfl ?_
            refine gX10_13 C hR ob0 (dk DX10_putBytes 23 rfl) ?_
            refine lv_iconst (v := (1 : Int32)) hx hb (dk DX10_putBytes 24 rfl) (by decide) ?_
            refine lv_iadd hx hb (dk DX10_putBytes 25 rfl) ?_
            refine pX10_13 (x := (gI mq8 0 1) + (1 : Int32)) C hR ob0 (dk DX10_putBytes 26 rfl) (fun H locs hR => ?_)
            obtain ⟨mq10, emq10, hF⟩ := lt_ex hF
            have hR := Rp_at emq10 hR
            exact J50 mq10 _ _ ls (lv_sub hl [0, 1, 2] rfl) hR hF
  exact L3 1000000 (24 : Int32) m0 _ _ ls (lv_sub hl [1, 2, 0] rfl) hR hF
set_option maxHeartbeats 4000000 in
set_option maxRecDepth 100000 in
theorem C_T_feed (l : Launch) (hl0 : l.stackTraces = false) (G : GG) (a1 : Int32) (a2 : Int32) (a3 : Int32) (a4 : Int32) (a5 : Int32) (m0 : Mem) (v : Int32) (m' : Mem) (hF : F_T_feed a1 a2 a3 a4 a5 m0 = some (v, m')) : Ct l G mr0 N0 yX10_feed cX10_feed 6 (some .int) 2 [.ref (G.2.1 + 0), .int a1, .int a2, .int a3, .int a4, .int a5] m0 (some (.int v)) m' := by
  refine Ct_of hl0 (by decide) (Nat.le_of_ble_eq_true rfl) ?_
  intro p e s mid args below meth c ls C hrt hl hR
  have hx := C.1.1
  have hb := C.1.2.1
  have hl : lv_has ls 6 [(0, .ref (G.2.1 + 0)), (1, .int a1), (2, .int a2), (3, .int a3), (4, .int a4), (5, .int a5)] := hl
  unfold F_T_feed at hF
  refine lv_aload_n hx hb (dk DX10_feed 0 rfl) rfl (lv_at hl 0 rfl) ?_
  refine gX10_13 C hR ob0 (dk DX10_feed 1 rfl) ?_
  refine lv_bipush (v := (20 : Int32)) hx hb (dk DX10_feed 2 rfl) (by decide) ?_
  refine lv_iadd hx hb (dk DX10_feed 3 rfl) ?_
  refine lv_sipush (v := (400 : Int32)) hx hb (dk DX10_feed 4 rfl) (by decide) ?_
  refine lv_icmp_le (tgt := 15) hx hb (dk DX10_feed 5 rfl) (by decide) (fun c10 => ?_) (fun c10 => ?_)
  · have hF := if_t c10 hF
    refine lv_aload_n hx hb (dk DX10_feed 8 rfl) rfl (lv_at hl 0 rfl) ?_
    refine lv_iload_n hx hb (dk DX10_feed 9 rfl) rfl (lv_at hl 1 rfl) ?_
    obtain ⟨uq3, mq1, hzq2, hF⟩ := bnd_ex hF
    refine r_callVv (As := [.int a1]) (rest := []) C hR (C_T_putBytes l hl0 G a1 m0 _ _ hzq2) (by decide) (by decide) ob0 rfl wX10_85 rfl rfl (Nat.le_of_ble_eq_true rfl) hl.1 ⟨Nat.zero_le _, Nat.zero_le _⟩ (dk DX10_feed 10 rfl) (fun H locs hR => ?_)
    refine lv_aload_n hx hb (dk DX10_feed 11 rfl) rfl (lv_at hl 0 rfl) ?_
    refine lv_iload_n hx hb (dk DX10_feed 12 rfl) rfl (lv_at hl 2 rfl) ?_
    obtain ⟨uq6, mq4, hzq5, hF⟩ := bnd_ex hF
    refine r_callVv (As := [.int a2]) (rest := []) C hR (C_T_putBytes l hl0 G a2 mq1 _ _ hzq5) (by decide) (by decide) ob0 rfl wX10_85 rfl rfl (Nat.le_of_ble_eq_true rfl) hl.1 ⟨Nat.zero_le _, Nat.zero_le _⟩ (dk DX10_feed 13 rfl) (fun H locs hR => ?_)
    refine lv_aload_n hx hb (dk DX10_feed 14 rfl) rfl (lv_at hl 0 rfl) ?_
    refine lv_iload_n hx hb (dk DX10_feed 15 rfl) rfl (lv_at hl 3 rfl) ?_
    obtain ⟨uq9, mq7, hzq8, hF⟩ := bnd_ex hF
    refine r_callVv (As := [.int a3]) (rest := []) C hR (C_T_putBytes l hl0 G a3 mq4 _ _ hzq8) (by decide) (by decide) ob0 rfl wX10_85 rfl rfl (Nat.le_of_ble_eq_true rfl) hl.1 ⟨Nat.zero_le _, Nat.zero_le _⟩ (dk DX10_feed 16 rfl) (fun H locs hR => ?_)
    refine lv_aload_n hx hb (dk DX10_feed 17 rfl) rfl (lv_at hl 0 rfl) ?_
    refine lv_iload hx hb (dk DX10_feed 18 rfl) (lv_at hl 4 rfl) ?_
    obtain ⟨uq12, mq10, hzq11, hF⟩ := bnd_ex hF
    refine r_callVv (As := [.int a4]) (rest := []) C hR (C_T_putBytes l hl0 G a4 mq7 _ _ hzq11) (by decide) (by decide) ob0 rfl wX10_85 rfl rfl (Nat.le_of_ble_eq_true rfl) hl.1 ⟨Nat.zero_le _, Nat.zero_le _⟩ (dk DX10_feed 19 rfl) (fun H locs hR => ?_)
    refine lv_aload_n hx hb (dk DX10_feed 20 rfl) rfl (lv_at hl 0 rfl) ?_
    refine lv_iload hx hb (dk DX10_feed 21 rfl) (lv_at hl 5 rfl) ?_
    obtain ⟨uq15, mq13, hzq14, hF⟩ := bnd_ex hF
    refine r_callVv (As := [.int a5]) (rest := []) C hR (C_T_putBytes l hl0 G a5 mq10 _ _ hzq14) (by decide) (by decide) ob0 rfl wX10_85 rfl rfl (Nat.le_of_ble_eq_true rfl) hl.1 ⟨Nat.zero_le _, Nat.zero_le _⟩ (dk DX10_feed 22 rfl) (fun H locs hR => ?_)
    refine lv_aload_n hx hb (dk DX10_feed 23 rfl) rfl (lv_at hl 0 rfl) ?_
    refine gX10_13 C hR ob0 (dk DX10_feed 24 rfl) ?_
    cases hF
    exact r_iret C hrt hR (dk DX10_feed 25 rfl)
  · have hF := if_f c10 hF
    refine lv_iconst (v := (-1 : Int32)) hx hb (dk DX10_feed 6 rfl) (by decide) ?_
    cases hF
    exact r_iret C hrt hR (dk DX10_feed 7 rfl)
set_option maxHeartbeats 4000000 in
set_option maxRecDepth 100000 in
theorem C_Ma_mayFollow (l : Launch) (hl0 : l.stackTraces = false) (G : GG) (a1 : Int32) (m0 : Mem) (v : Bool) (m' : Mem) (hF : F_Ma_mayFollow a1 m0 = some (v, m')) : Ct l G mr0 N0 yX5_mayFollow cX5_mayFollow 2 (some .boolean) 2 [.ref (G.2.1 + 16), .int a1] m0 (some (.int (b2i v))) m' := by
  refine Ct_of hl0 (by decide) (Nat.le_of_ble_eq_true rfl) ?_
  intro p e s mid args below meth c ls C hrt hl hR
  have hx := C.1.1
  have hb := C.1.2.1
  have hl : lv_has ls 2 [(0, .ref (G.2.1 + 16)), (1, .int a1)] := hl
  unfold F_Ma_mayFollow at hF
  refine lv_aload_n hx hb (dk DX5_mayFollow 0 rfl) rfl (lv_at hl 0 rfl) ?_
  obtain ⟨zq3, mq1, hzq2, hF⟩ := bnd_ex hF
  refine r_callVi (As := []) (rest := []) C hR (C_Ma_isOn l hl0 G m0 _ _ hzq2) (by decide) (by decide) ob16 rfl wX5_61 rfl rfl (Nat.le_of_ble_eq_true rfl) hl.1 ⟨Nat.zero_le _, Nat.zero_le _⟩ (dk DX5_mayFollow 1 rfl) (fun H locs hR => ?_)
  refine z_ifeq (tgt := 45) hx hb (dk DX5_mayFollow 2 rfl) (by decide) (fun c4 => ?_) (fun c4 => ?_)
  · have hF := if_f c4 hF
    refine lv_iconst (v := (0 : Int32)) hx hb (dk DX5_mayFollow 21 rfl) (by decide) ?_
    cases hF
    exact r_zret C hrt hR (dk DX5_mayFollow 22 rfl)
  · have hF := if_t c4 hF
    refine lv_aload_n hx hb (dk DX5_mayFollow 3 rfl) rfl (lv_at hl 0 rfl) ?_
    refine gX5_15 C hR ob16 (dk DX5_mayFollow 4 rfl) ?_
    refine lv_iconst (v := (2 : Int32)) hx hb (dk DX5_mayFollow 5 rfl) (by decide) ?_
    refine lv_icmp_ne (tgt := 45) hx hb (dk DX5_mayFollow 6 rfl) (by decide) (fun c12 => ?_) (fun c12 => ?_)
    · have hF := if_f c12 hF
      refine lv_iconst (v := (0 : Int32)) hx hb (dk DX5_mayFollow 21 rfl) (by decide) ?_
      cases hF
      exact r_zret C hrt hR (dk DX5_mayFollow 22 rfl)
    · have hF := if_t c12 hF
      refine lv_aload_n hx hb (dk DX5_mayFollow 7 rfl) rfl (lv_at hl 0 rfl) ?_
      refine gX5_31 C hR ob16 (dk DX5_mayFollow 8 rfl) ?_
      refine z_ifeq (tgt := 45) hx hb (dk DX5_mayFollow 9 rfl) (by decide) (fun c19 => ?_) (fun c19 => ?_)
      · have hF := if_f c19 hF
        refine lv_iconst (v := (0 : Int32)) hx hb (dk DX5_mayFollow 21 rfl) (by decide) ?_
        cases hF
        exact r_zret C hrt hR (dk DX5_mayFollow 22 rfl)
      · have hF := if_t c19 hF
        refine lv_aload_n hx hb (dk DX5_mayFollow 10 rfl) rfl (lv_at hl 0 rfl) ?_
        refine gX5_27 C hR ob16 (dk DX5_mayFollow 11 rfl) ?_
        refine z_ifne (tgt := 45) hx hb (dk DX5_mayFollow 12 rfl) (by decide) (fun c26 => ?_) (fun c26 => ?_)
        · have hF := if_t c26 hF
          refine lv_iconst (v := (0 : Int32)) hx hb (dk DX5_mayFollow 21 rfl) (by decide) ?_
          cases hF
          exact r_zret C hrt hR (dk DX5_mayFollow 22 rfl)
        · have hF := if_f c26 hF
          refine lv_aload_n hx hb (dk DX5_mayFollow 13 rfl) rfl (lv_at hl 0 rfl) ?_
          refine lv_aload_n hx hb (dk DX5_mayFollow 14 rfl) rfl (lv_at hl 0 rfl) ?_
          refine gX5_9 C hR ob16 (dk DX5_mayFollow 15 rfl) ?_
          obtain ⟨xq6, mq4, hzq5, hF⟩ := bnd_ex hF
          refine r_callVi (As := [.int (gI mq1 16 0)]) (rest := []) C hR (C_Ma_leadOf l hl0 G (gI mq1 16 0) mq1 _ _ hzq5) (by decide) (by decide) ob16 rfl wX5_65 rfl rfl (Nat.le_of_ble_eq_true rfl) hl.1 ⟨Nat.zero_le _, Nat.zero_le _⟩ (dk DX5_mayFollow 16 rfl) (fun H locs hR => ?_)
          refine lv_iload_n hx hb (dk DX5_mayFollow 17 rfl) rfl (lv_at hl 1 rfl) ?_
          refine lv_icmp_lt (tgt := 45) hx hb (dk DX5_mayFollow 18 rfl) (by decide) (fun c38 => ?_) (fun c38 => ?_)
          · have hF := if_t c38 hF
            refine lv_iconst (v := (0 : Int32)) hx hb (dk DX5_mayFollow 21 rfl) (by decide) ?_
            cases hF
            exact r_zret C hrt hR (dk DX5_mayFollow 22 rfl)
          · have hF := if_f c38 hF
            refine lv_iconst (v := (1 : Int32)) hx hb (dk DX5_mayFollow 19 rfl) (by decide) ?_
            refine lv_goto (tgt := 46) hx hb (dk DX5_mayFollow 20 rfl) (by decide) ?_
            cases hF
            exact r_zret C hrt hR (dk DX5_mayFollow 22 rfl)
set_option maxHeartbeats 4000000 in
set_option maxRecDepth 100000 in
theorem C_T_follow (l : Launch) (hl0 : l.stackTraces = false) (G : GG) (m0 : Mem) (v : Nat ⊕ Int32) (m' : Mem) (hF : F_T_follow m0 = some (v, m')) : CtX l G mr0 N0 yX10_follow cX10_follow 1 (some .int) 8 [.ref (G.2.1 + 0)] m0 (ouI v) m' := by
  refine CtX_of hl0 (by decide) (Nat.le_of_ble_eq_true rfl) ?_
  intro p e s mid args below meth c ls C hrt hex hl hR
  have hx := C.1.1
  have hb := C.1.2.1
  have hl : lv_has ls 1 [(0, .ref (G.2.1 + 0))] := hl
  unfold F_T_follow at hF
  refine lv_aload_n hx hb (dk DX10_follow 0 rfl) rfl (lv_at hl 0 rfl) ?_
  refine gX10_37 C hR ob0 rf0_5 (dk DX10_follow 1 rfl) ?_
  refine lv_aload_n hx hb (dk DX10_follow 2 rfl) rfl (lv_at hl 0 rfl) ?_
  refine gX10_31 C hR ob0 rf0_4 (dk DX10_follow 3 rfl) ?_
  refine gX10_197 C hR ob3 (dk DX10_follow 4 rfl) ?_
  obtain ⟨zq3, mq1, hzq2, hF⟩ := bnd_ex hF
  refine r_callVi (As := [.int (gI m0 3 4)]) (rest := []) C hR (C_Ma_mayFollow l hl0 G (gI m0 3 4) m0 _ _ hzq2) (by decide) (by decide) ob16 rfl wX10_228 rfl rfl (Nat.le_of_ble_eq_true rfl) hl.1 ⟨Nat.zero_le _, Nat.zero_le _⟩ (dk DX10_follow 5 rfl) (fun H locs hR => ?_)
  refine z_ifne (tgt := 28) hx hb (dk DX10_follow 6 rfl) (by decide) (fun c14 => ?_) (fun c14 => ?_)
  · have hF := if_t c14 hF
    refine lv_aload_n hx hb (dk DX10_follow 12 rfl) rfl (lv_at hl 0 rfl) ?_
    refine gX10_47 C hR ob0 rf0_7 (dk DX10_follow 13 rfl) ?_
    refine lv_aload_n hx hb (dk DX10_follow 14 rfl) rfl (lv_at hl 0 rfl) ?_
    refine gX10_37 C hR ob0 rf0_5 (dk DX10_follow 15 rfl) ?_
    obtain ⟨uq6, mq4, hzq5, hF⟩ := bnd_ex hF
    refine r_callVv (As := [.ref (G.2.1 + 16)]) (rest := []) C hR (C_Pa_remember l hl0 G mq1 _ _ hzq5) (by decide) (by decide) ob20 rfl wX10_240 rfl rfl (Nat.le_of_ble_eq_true rfl) hl.1 ⟨Nat.zero_le _, Nat.zero_le _⟩ (dk DX10_follow 16 rfl) (fun H locs hR => ?_)
    refine lv_aload_n hx hb (dk DX10_follow 17 rfl) rfl (lv_at hl 0 rfl) ?_
    refine gX10_37 C hR ob0 rf0_5 (dk DX10_follow 18 rfl) ?_
    refine lv_iconst (v := (1 : Int32)) hx hb (dk DX10_follow 19 rfl) (by decide) ?_
    refine pX10_222 (x := true) C hR ob16 (dk DX10_follow 20 rfl) (fun H locs hR => ?_)
    obtain ⟨mq7, emq7, hF⟩ := lt_ex hF
    have hR := Rp_at emq7 hR
    refine lv_aload_n hx hb (dk DX10_follow 21 rfl) rfl (lv_at hl 0 rfl) ?_
    refine gX10_37 C hR ob0 rf0_5 (dk DX10_follow 22 rfl) ?_
    refine lv_aload_n hx hb (dk DX10_follow 23 rfl) rfl (lv_at hl 0 rfl) ?_
    refine gX10_37 C hR ob0 rf0_5 (dk DX10_follow 24 rfl) ?_
    refine gX10_93 C hR ob16 (dk DX10_follow 25 rfl) ?_
    obtain ⟨xq10, mq8, hzq9, hF⟩ := bnd_ex hF
    refine r_callVi (As := [.int (gI mq7 16 0)]) (rest := []) C hR (C_Ma_leadOf l hl0 G (gI mq7 16 0) mq7 _ _ hzq9) (by decide) (by decide) ob16 rfl wX10_257 rfl rfl (Nat.le_of_ble_eq_true rfl) hl.1 ⟨Nat.zero_le _, Nat.zero_le _⟩ (dk DX10_follow 26 rfl) (fun H locs hR => ?_)
    cases hF
    exact x_iret C hrt hR (dk DX10_follow 27 rfl)
  · have hF := if_f c14 hF
    cases hF
    exact r_throwW (d := 8) (k := 0) C hex hR tX10_239 strm_X10_271 (by decide) (Nat.le_of_ble_eq_true rfl) hl.1 (dk DX10_follow 7 rfl) (dk DX10_follow 8 rfl) (dk DX10_follow 9 rfl) (dk DX10_follow 10 rfl) (dk DX10_follow 11 rfl)
set_option maxHeartbeats 4000000 in
set_option maxRecDepth 100000 in
theorem C_Ma_logged (l : Launch) (hl0 : l.stackTraces = false) (G : GG) (a1 : Int32) (a2 : Int32) (m0 : Mem) (v : Int32) (m' : Mem) (hF : F_Ma_logged a1 a2 m0 = some (v, m')) : Ct l G mr0 N0 yX5_logged cX5_logged 4 (some .int) 1 [.ref (G.2.1 + 16), .int a1, .int a2] m0 (some (.int v)) m' := by
  refine Ct_of hl0 (by decide) (Nat.le_of_ble_eq_true rfl) ?_
  intro p e s mid args below meth c ls C hrt hl hR
  have hx := C.1.1
  have hb := C.1.2.1
  have hl : lv_has ls 4 [(0, .ref (G.2.1 + 16)), (1, .int a1), (2, .int a2)] := hl
  unfold F_Ma_logged at hF
  refine lv_iload_n hx hb (dk DX5_logged 0 rfl) rfl (lv_at hl 1 rfl) ?_
  refine lv_bipush (v := (7 : Int32)) hx hb (dk DX5_logged 1 rfl) (by decide) ?_
  refine lv_imul hx hb (dk DX5_logged 2 rfl) ?_
  refine lv_iload_n hx hb (dk DX5_logged 3 rfl) rfl (lv_at hl 2 rfl) ?_
  refine lv_iadd hx hb (dk DX5_logged 4 rfl) ?_
  refine lv_topi (fun xq1 exq1 => ?_)
  have hF := lt_at exq1 hF
  refine lv_istore_n (lv' := [(3, .int xq1), (0, .ref (G.2.1 + 16)), (1, .int a1), (2, .int a2)]) hx hb (dk DX5_logged 5 rfl) rfl hl (by decide) rfl (fun ls hl => ?_)
  refine lv_iload_n hx hb (dk DX5_logged 6 rfl) rfl (lv_at hl 2 rfl) ?_
  refine lv_if_lt (tgt := 29) hx hb (dk DX5_logged 7 rfl) (by decide) (fun c8 => ?_) (fun c8 => ?_)
  · have hF := if_t c8 hF
    refine lv_bipush (v := (-99 : Int32)) hx hb (dk DX5_logged 17 rfl) (by decide) ?_
    cases hF
    exact r_iret C hrt hR (dk DX5_logged 18 rfl)
  · have hF := if_f c8 hF
    refine lv_iload_n hx hb (dk DX5_logged 8 rfl) rfl (lv_at hl 2 rfl) ?_
    refine lv_aload_n hx hb (dk DX5_logged 9 rfl) rfl (lv_at hl 1 rfl) ?_
    refine gX5_21 C hR ob16 (dk DX5_logged 10 rfl) ?_
    refine lv_icmp_ge (tgt := 29) hx hb (dk DX5_logged 11 rfl) (by decide) (fun c16 => ?_) (fun c16 => ?_)
    · have hF := if_t c16 hF
      refine lv_bipush (v := (-99 : Int32)) hx hb (dk DX5_logged 17 rfl) (by decide) ?_
      cases hF
      exact r_iret C hrt hR (dk DX5_logged 18 rfl)
    · have hF := if_f c16 hF
      refine lv_iload_n hx hb (dk DX5_logged 12 rfl) rfl (lv_at hl 0 rfl) ?_
      refine lv_if_lt (tgt := 29) hx hb (dk DX5_logged 13 rfl) (by decide) (fun c20 => ?_) (fun c20 => ?_)
      · have hF := if_t c20 hF
        refine lv_bipush (v := (-99 : Int32)) hx hb (dk DX5_logged 17 rfl) (by decide) ?_
        cases hF
        exact r_iret C hrt hR (dk DX5_logged 18 rfl)
      · have hF := if_f c20 hF
        refine lv_iload_n hx hb (dk DX5_logged 14 rfl) rfl (lv_at hl 0 rfl) ?_
        refine lv_bipush (v := (63 : Int32)) hx hb (dk DX5_logged 15 rfl) (by decide) ?_
        refine lv_icmp_lt (tgt := 32) hx hb (dk DX5_logged 16 rfl) (by decide) (fun c26 => ?_) (fun c26 => ?_)
        · have hF := if_t c26 hF
          refine lv_aload_n hx hb (dk DX5_logged 19 rfl) rfl (lv_at hl 1 rfl) ?_
          refine gX5_43 C hR ob16 rf16_10 (dk DX5_logged 20 rfl) ?_
          refine lv_iload_n hx hb (dk DX5_logged 21 rfl) rfl (lv_at hl 0 rfl) ?_
          obtain ⟨hq2, hF⟩ := ckB_ex hF
          refine r_iald C hR ob17 hq2 (dk DX5_logged 22 rfl) ?_
          refine lv_topi (fun xq3 exq3 => ?_)
          have hF := lt_at exq3 hF
          cases hF
          exact r_iret C hrt hR (dk DX5_logged 23 rfl)
        · have hF := if_f c26 hF
          refine lv_bipush (v := (-99 : Int32)) hx hb (dk DX5_logged 17 rfl) (by decide) ?_
          cases hF
          exact r_iret C hrt hR (dk DX5_logged 18 rfl)
set_option maxHeartbeats 4000000 in
set_option maxRecDepth 100000 in
theorem C_T_form (l : Launch) (hl0 : l.stackTraces = false) (G : GG) (a1 : Int32) (a2 : Int32) (m0 : Mem) (v : Nat ⊕ Int32) (m' : Mem) (hF : F_T_form a1 a2 m0 = some (v, m')) : CtX l G mr0 N0 yX10_form cX10_form 5 (some .int) 9 [.ref (G.2.1 + 0), .int a1, .int a2] m0 (ouI v) m' := by
  refine CtX_of hl0 (by decide) (Nat.le_of_ble_eq_true rfl) ?_
  intro p e s mid args below meth c ls C hrt hex hl hR
  have hx := C.1.1
  have hb := C.1.2.1
  have hl : lv_has ls 5 [(0, .ref (G.2.1 + 0)), (1, .int a1), (2, .int a2)] := hl
  unfold F_T_form at hF
  refine lv_aload_n hx hb (dk DX10_form 0 rfl) rfl (lv_at hl 0 rfl) ?_
  refine lv_iload_n hx hb (dk DX10_form 1 rfl) rfl (lv_at hl 1 rfl) ?_
  refine lv_iconst (v := (2 : Int32)) hx hb (dk DX10_form 2 rfl) (by decide) ?_
  rcases bndX_ex hF with ⟨ke, mq1, hzq2, hF⟩ | ⟨uq3, mq1, hzq2, hF⟩
  · have hM := C_T_mustBeBelow l hl0 G a1 (2 : Int32) m0 (Sum.inl ke) mq1 hzq2
    rw [show ouV (Sum.inl ke) = (Sum.inl ke : Ou) from rfl] at hM
    cases hF
    exact x_passV (d := 9) (k := ke) (As := [.int a1, .int (2 : Int32)]) (rest := []) C hex hR hM (by decide) (by decide) ob0 rfl wX10_149 rfl rfl (Nat.le_of_ble_eq_true rfl) hl.1 (dk DX10_form 3 rfl)
  · have hM := C_T_mustBeBelow l hl0 G a1 (2 : Int32) m0 (Sum.inr uq3) mq1 hzq2
    rw [show ouV (Sum.inr uq3) = (Sum.inr none : Ou) from rfl] at hM
    refine x_callVv (As := [.int a1, .int (2 : Int32)]) (rest := []) C hR hM (by decide) (by decide) ob0 rfl wX10_149 rfl rfl (Nat.le_of_ble_eq_true rfl) hl.1 ⟨Nat.zero_le _, Nat.zero_le _⟩ (dk DX10_form 3 rfl) (fun H locs hR => ?_)
    refine lv_iload_n hx hb (dk DX10_form 4 rfl) rfl (lv_at hl 2 rfl) ?_
    obtain ⟨k15_4, ek15_4, hF⟩ := lt_ex hF
    have J15 : ∀ (mq4 : Mem) (H : Heap) (locs : List Loc) (ls : Array Slot), lv_has ls 5 [] → Rp G mr0 N0 mq4 s H locs → k15_4  mq4 = some (v, m') → W p l e (rmX 9 (ouI v)) s mid args below meth c H locs 0 0 (ZX below G mr0 N0 (ouI v) m' args s) (F0 mid 15 ls []) := by
      intro  mq4 H locs ls hl hR hF
      rw [ek15_4] at hF
      cases hF
      exact r_throwW (d := 9) (k := 1) C hex hR tX10_113 strm_X10_287 (by decide) (Nat.le_of_ble_eq_true rfl) hl.1 (dk DX10_form 9 rfl) (dk DX10_form 10 rfl) (dk DX10_form 11 rfl) (dk DX10_form 12 rfl) (dk DX10_form 13 rfl)
    refine lv_if_lt (tgt := 15) hx hb (dk DX10_form 5 rfl) (by decide) (fun c7 => ?_) (fun c7 => ?_)
    · have hF := if_t c7 hF
      exact J15 mq1 _ _ ls (lv_sub hl [] rfl) hR hF
    · have hF := if_f c7 hF
      refine lv_iload_n hx hb (dk DX10_form 6 rfl) rfl (lv_at hl 2 rfl) ?_
      refine lv_iconst (v := (2 : Int32)) hx hb (dk DX10_form 7 rfl) (by decide) ?_
      refine lv_icmp_le (tgt := 26) hx hb (dk DX10_form 8 rfl) (by decide) (fun c12 => ?_) (fun c12 => ?_)
      · have hF := if_t c12 hF
        refine lv_iconst (v := (0 : Int32)) hx hb (dk DX10_form 14 rfl) (by decide) ?_
        refine lv_istore_n (lv' := [(3, .int (0 : Int32)), (0, .ref (G.2.1 + 0)), (1, .int a1), (2, .int a2)]) hx hb (dk DX10_form 15 rfl) rfl hl (by decide) rfl (fun ls hl => ?_)
        refine lv_iload_n hx hb (dk DX10_form 16 rfl) rfl (lv_at hl 3 rfl) ?_
        refine lv_iconst (v := (3 : Int32)) hx hb (dk DX10_form 17 rfl) (by decide) ?_
        refine lv_imul hx hb (dk DX10_form 18 rfl) ?_
        refine lv_topi (fun xq5 exq5 => ?_)
        have hF := lt_at exq5 hF
        refine lv_istore (lv' := [(4, .int xq5), (3, .int (0 : Int32)), (0, .ref (G.2.1 + 0)), (1, .int a1), (2, .int a2)]) hx hb (dk DX10_form 19 rfl) hl (by decide) rfl (fun ls hl => ?_)
        have L33 : ∀ (nf : Nat) (xq7 : Int32) (xq8 : Int32) (mq6 : Mem) (H : Heap) (locs : List Loc) (ls : Array Slot), lv_has ls 5 [(0, .ref (G.2.1 + 0)), (1, .int a1), (2, .int a2), (3, .int xq7), (4, .int xq8)] → Rp G mr0 N0 mq6 s H locs → F_T_form_L33 a1 a2 nf xq7 xq8 mq6 = some (v, m') → W p l e (rmX 9 (ouI v)) s mid args below meth c H locs 0 0 (ZX below G mr0 N0 (ouI v) m' args s) (F0 mid 33 ls []) := by
          intro nf
          induction nf with
          | zero =>
            intro xq7 xq8 mq6 H locs ls hl hR hF
            rw [F_T_form_L33] at hF
            cases hF
          | succ nf ihq10 =>
            intro xq7 xq8 mq6 H locs ls hl hR hF
            rw [F_T_form_L33] at hF
            refine lv_iload hx hb (dk DX10_form 20 rfl) (lv_at hl 4 rfl) ?_
            refine lv_iload_n hx hb (dk DX10_form 21 rfl) rfl (lv_at hl 2 rfl) ?_
            refine lv_iconst (v := (3 : Int32)) hx hb (dk DX10_form 22 rfl) (by decide) ?_
            refine lv_imul hx hb (dk DX10_form 23 rfl) ?_
            refine lv_iconst (v := (3 : Int32)) hx hb (dk DX10_form 24 rfl) (by decide) ?_
            refine lv_iadd hx hb (dk DX10_form 25 rfl) ?_
            refine lv_icmp_ge (tgt := 89) hx hb (dk DX10_form 26 rfl) (by decide) (fun c40 => ?_) (fun c40 => ?_)
            · have hF := if_t c40 hF
              refine lv_iload_n hx hb (dk DX10_form 49 rfl) rfl (lv_at hl 3 rfl) ?_
              cases hF
              exact x_iret C hrt hR (dk DX10_form 50 rfl)
            · have hF := if_f c40 hF
              refine lv_iload hx hb (dk DX10_form 27 rfl) (lv_at hl 4 rfl) ?_
              refine lv_aload_n hx hb (dk DX10_form 28 rfl) rfl (lv_at hl 0 rfl) ?_
              refine gX10_37 C hR ob0 rf0_5 (dk DX10_form 29 rfl) ?_
              refine gX10_203 C hR ob16 (dk DX10_form 30 rfl) ?_
              obtain ⟨k83_12, ek83_12, hF⟩ := lt_ex hF
              have J83 : ∀ (xq12 : Int32) (mq11 : Mem) (H : Heap) (locs : List Loc) (ls : Array Slot), lv_has ls 5 [(0, .ref (G.2.1 + 0)), (1, .int a1), (2, .int a2), (3, .int xq12), (4, .int xq8)] → Rp G mr0 N0 mq11 s H locs → k83_12 xq12 mq11 = some (v, m') → W p l e (rmX 9 (ouI v)) s mid args below meth c H locs 0 0 (ZX below G mr0 N0 (ouI v) m' args s) (F0 mid 83 ls []) := by
                intro xq12 mq11 H locs ls hl hR hF
                rw [ek83_12] at hF
                obtain ⟨xq13, exq13, hF⟩ := lt_ex hF
                refine lv_iinc (v := xq13) (lv' := [(4, .int xq13), (0, .ref (G.2.1 + 0)), (1, .int a1), (2, .int a2), (3, .int xq12)]) hx hb (dk DX10_form 47 rfl) hl (k := 4) rfl (by rw [exq13]; rfl) (by decide) rfl (fun ls hl => ?_)
                refine lv_goto (tgt := 33) hx hb (dk DX10_form 48 rfl) (by decide) ?_
                exact ihq10 xq12 xq13 mq11 _ _ ls (lv_sub hl [1, 2, 3, 4, 0] rfl) hR hF
              refine lv_icmp_ge (tgt := 83) hx hb (dk DX10_form 31 rfl) (by decide) (fun c52 => ?_) (fun c52 => ?_)
              · have hF := if_t c52 hF
                exact J83 xq7 mq6 _ _ ls (lv_sub hl [0, 1, 2, 3, 4] rfl) hR hF
              · have hF := if_f c52 hF
                refine lv_aload_n hx hb (dk DX10_form 32 rfl) rfl (lv_at hl 0 rfl) ?_
                refine gX10_37 C hR ob0 rf0_5 (dk DX10_form 33 rfl) ?_
                refine lv_iload hx hb (dk DX10_form 34 rfl) (lv_at hl 4 rfl) ?_
                refine lv_iconst (v := (1 : Int32)) hx hb (dk DX10_form 35 rfl) (by decide) ?_
                obtain ⟨xq16, mq14, hzq15, hF⟩ := bnd_ex hF
                refine r_callVi (As := [.int xq8, .int (1 : Int32)]) (rest := []) C hR (C_Ma_logged l hl0 G xq8 (1 : Int32) mq6 _ _ hzq15) (by decide) (by decide) ob16 rfl wX10_289 rfl rfl (Nat.le_of_ble_eq_true rfl) hl.1 ⟨Nat.zero_le _, Nat.zero_le _⟩ (dk DX10_form 36 rfl) (fun H locs hR => ?_)
                refine lv_iload_n hx hb (dk DX10_form 37 rfl) rfl (lv_at hl 1 rfl) ?_
                refine lv_icmp_ne (tgt := 83) hx hb (dk DX10_form 38 rfl) (by decide) (fun c66 => ?_) (fun c66 => ?_)
                · have hF := if_f c66 hF
                  exact J83 xq7 mq14 _ _ ls (lv_sub hl [0, 1, 2, 3, 4] rfl) hR hF
                · have hF := if_t c66 hF
                  refine lv_iload_n hx hb (dk DX10_form 39 rfl) rfl (lv_at hl 3 rfl) ?_
                  refine lv_aload_n hx hb (dk DX10_form 40 rfl) rfl (lv_at hl 0 rfl) ?_
                  refine gX10_37 C hR ob0 rf0_5 (dk DX10_form 41 rfl) ?_
                  refine lv_iload hx hb (dk DX10_form 42 rfl) (lv_at hl 4 rfl) ?_
                  refine lv_bipush (v := (6 : Int32)) hx hb (dk DX10_form 43 rfl) (by decide) ?_
                  obtain ⟨xq19, mq17, hzq18, hF⟩ := bnd_ex hF
                  refine r_callVi (As := [.int xq8, .int (6 : Int32)]) (rest := [.int xq7]) C hR (C_Ma_logged l hl0 G xq8 (6 : Int32) mq14 _ _ hzq18) (by decide) (by decide) ob16 rfl wX10_289 rfl rfl (Nat.le_of_ble_eq_true rfl) hl.1 ⟨Nat.zero_le _, Nat.zero_le _⟩ (dk DX10_form 44 rfl) (fun H locs hR => ?_)
                  refine lv_iadd hx hb (dk DX10_form 45 rfl) ?_
                  refine lv_topi (fun xq20 exq20 => ?_)
                  have hF := lt_at exq20 hF
                  refine lv_istore_n (lv' := [(3, .int xq20), (0, .ref (G.2.1 + 0)), (1, .int a1), (2, .int a2), (4, .int xq8)]) hx hb (dk DX10_form 46 rfl) rfl hl (by decide) rfl (fun ls hl => ?_)
                  exact J83 xq20 mq17 _ _ ls (lv_sub hl [1, 2, 3, 0, 4] rfl) hR hF
        exact L33 1000000 (0 : Int32) xq5 mq1 _ _ ls (lv_sub hl [2, 3, 4, 1, 0] rfl) hR hF
      · have hF := if_f c12 hF
        exact J15 mq1 _ _ ls (lv_sub hl [] rfl) hR hF
set_option maxHeartbeats 4000000 in
set_option maxRecDepth 100000 in
theorem C_Tx_addThingG (l : Launch) (hl0 : l.stackTraces = false) (G : GG) (a1 : Int32) (a2 : Int32) (a3 : Int32) (m0 : Mem) (v : Unit) (m' : Mem) (hF : F_Tx_addThingG a1 a2 a3 m0 = some (v, m')) : Ct l G mr0 N0 yX9_addThing cX9_addThing 4 none 1 [.ref (G.2.1 + 46), .int a1, .int a2, .int a3] m0 none m' := by
  refine Ct_of hl0 (by decide) (Nat.le_of_ble_eq_true rfl) ?_
  intro p e s mid args below meth c ls C hrt hl hR
  have hx := C.1.1
  have hb := C.1.2.1
  have hl : lv_has ls 4 [(0, .ref (G.2.1 + 46)), (1, .int a1), (2, .int a2), (3, .int a3)] := hl
  unfold F_Tx_addThingG at hF
  refine lv_aload_n hx hb (dk DX9_addThing 0 rfl) rfl (lv_at hl 0 rfl) ?_
  refine gX9_24_2 C hR ob46 (dk DX9_addThing 1 rfl) ?_
  refine lv_if_lt (tgt := 57) hx hb (dk DX9_addThing 2 rfl) (by decide) (fun c4 => ?_) (fun c4 => ?_)
  · have hF := if_t c4 hF
    cases hF
    exact r_vret C hrt hR (dk DX9_addThing 31 rfl)
  · have hF := if_f c4 hF
    refine lv_aload_n hx hb (dk DX9_addThing 3 rfl) rfl (lv_at hl 0 rfl) ?_
    refine gX9_24_2 C hR ob46 (dk DX9_addThing 4 rfl) ?_
    refine lv_sipush (v := (400 : Int32)) hx hb (dk DX9_addThing 5 rfl) (by decide) ?_
    refine lv_icmp_gt (tgt := 57) hx hb (dk DX9_addThing 6 rfl) (by decide) (fun c14 => ?_) (fun c14 => ?_)
    · have hF := if_t c14 hF
      cases hF
      exact r_vret C hrt hR (dk DX9_addThing 31 rfl)
    · have hF := if_f c14 hF
      refine lv_aload_n hx hb (dk DX9_addThing 7 rfl) rfl (lv_at hl 0 rfl) ?_
      refine gX9_15_2 C hR ob46 rf46_1 (dk DX9_addThing 8 rfl) ?_
      refine lv_aload_n hx hb (dk DX9_addThing 9 rfl) rfl (lv_at hl 0 rfl) ?_
      refine gX9_24_2 C hR ob46 (dk DX9_addThing 10 rfl) ?_
      refine lv_iload_n hx hb (dk DX9_addThing 11 rfl) rfl (lv_at hl 1 rfl) ?_
      obtain ⟨hq2, hF⟩ := ckB_ex hF
      refine r_iast C hR ob48 hq2 (dk DX9_addThing 12 rfl) (fun H locs hR => ?_)
      obtain ⟨mq1, emq1, hF⟩ := lt_ex hF
      have hR := Rp_at emq1 hR
      refine lv_aload_n hx hb (dk DX9_addThing 13 rfl) rfl (lv_at hl 0 rfl) ?_
      refine gX9_18_2 C hR ob46 rf46_2 (dk DX9_addThing 14 rfl) ?_
      refine lv_aload_n hx hb (dk DX9_addThing 15 rfl) rfl (lv_at hl 0 rfl) ?_
      refine gX9_24_2 C hR ob46 (dk DX9_addThing 16 rfl) ?_
      refine lv_iload_n hx hb (dk DX9_addThing 17 rfl) rfl (lv_at hl 2 rfl) ?_
      obtain ⟨hq4, hF⟩ := ckB_ex hF
      refine r_iast C hR ob49 hq4 (dk DX9_addThing 18 rfl) (fun H locs hR => ?_)
      obtain ⟨mq3, emq3, hF⟩ := lt_ex hF
      have hR := Rp_at emq3 hR
      refine lv_aload_n hx hb (dk DX9_addThing 19 rfl) rfl (lv_at hl 0 rfl) ?_
      refine gX9_21_2 C hR ob46 rf46_3 (dk DX9_addThing 20 rfl) ?_
      refine lv_aload_n hx hb (dk DX9_addThing 21 rfl) rfl (lv_at hl 0 rfl) ?_
      refine gX9_24_2 C hR ob46 (dk DX9_addThing 22 rfl) ?_
      refine lv_iload_n hx hb (dk DX9_addThing 23 rfl) rfl (lv_at hl 3 rfl) ?_
      obtain ⟨hq6, hF⟩ := ckB_ex hF
      refine r_iast C hR ob50 hq6 (dk DX9_addThing 24 rfl) (fun H locs hR => ?_)
      obtain ⟨mq5, emq5, hF⟩ := lt_ex hF
      have hR := Rp_at emq5 hR
      refine lv_aload_n hx hb (dk DX9_addThing 25 rfl) rfl (lv_at hl 0 rfl) ?_
      refine lv_dup hx hb (dk DX9_addThing 26 rfl) rfl ?_
      refine gX9_24_2 C hR ob46 (dk DX9_addThing 27 rfl) ?_
      refine lv_iconst (v := (1 : Int32)) hx hb (dk DX9_addThing 28 rfl) (by decide) ?_
      refine lv_iadd hx hb (dk DX9_addThing 29 rfl) ?_
      refine pX9_24_2 (x := (gI mq5 46 4) + (1 : Int32)) C hR ob46 (dk DX9_addThing 30 rfl) (fun H locs hR => ?_)
      obtain ⟨mq7, emq7, hF⟩ := lt_ex hF
      have hR := Rp_at emq7 hR
      cases hF
      exact r_vret C hrt hR (dk DX9_addThing 31 rfl)
set_option maxHeartbeats 4000000 in
set_option maxRecDepth 100000 in
theorem C_Tx_kindOf (l : Launch) (hl0 : l.stackTraces = false) (G : GG) (a0 : Int32) (m0 : Mem) (v : Int32) (m' : Mem) (hF : F_Tx_kindOf a0 m0 = some (v, m')) : Ct l G mr0 N0 yX9_kindOf cX9_kindOf 1 (some .int) 1 [.int a0] m0 (some (.int v)) m' := by
  refine Ct_of hl0 (by decide) (Nat.le_of_ble_eq_true rfl) ?_
  intro p e s mid args below meth c ls C hrt hl hR
  have hx := C.1.1
  have hb := C.1.2.1
  have hl : lv_has ls 1 [(0, .int a0)] := hl
  unfold F_Tx_kindOf at hF
  refine lv_iload_n hx hb (dk DX9_kindOf 0 rfl) rfl (lv_at hl 0 rfl) ?_
  refine lv_bipush (v := (97 : Int32)) hx hb (dk DX9_kindOf 1 rfl) (by decide) ?_
  obtain ⟨k14_1, ek14_1, hF⟩ := lt_ex hF
  have J14 : ∀ (mq1 : Mem) (H : Heap) (locs : List Loc) (ls : Array Slot), lv_has ls 1 [(0, .int a0)] → Rp G mr0 N0 mq1 s H locs → k14_1  mq1 = some (v, m') → W p l e (rmD 1) s mid args below meth c H locs 0 0 (MQ below (QR G mr0 N0 (some (.int v)) m') args s 0 0 (fun q => G.2.1 ≤ q)) (F0 mid 14 ls []) := by
    intro  mq1 H locs ls hl hR hF
    rw [ek14_1] at hF
    refine lv_iload_n hx hb (dk DX9_kindOf 8 rfl) rfl (lv_at hl 0 rfl) ?_
    refine lv_bipush (v := (48 : Int32)) hx hb (dk DX9_kindOf 9 rfl) (by decide) ?_
    refine lv_icmp_lt (tgt := 30) hx hb (dk DX9_kindOf 10 rfl) (by decide) (fun c17 => ?_) (fun c17 => ?_)
    · have hF := if_t c17 hF
      refine lv_iconst (v := (2 : Int32)) hx hb (dk DX9_kindOf 16 rfl) (by decide) ?_
      cases hF
      exact r_iret C hrt hR (dk DX9_kindOf 17 rfl)
    · have hF := if_f c17 hF
      refine lv_iload_n hx hb (dk DX9_kindOf 11 rfl) rfl (lv_at hl 0 rfl) ?_
      refine lv_bipush (v := (57 : Int32)) hx hb (dk DX9_kindOf 12 rfl) (by decide) ?_
      refine lv_icmp_gt (tgt := 30) hx hb (dk DX9_kindOf 13 rfl) (by decide) (fun c23 => ?_) (fun c23 => ?_)
      · have hF := if_t c23 hF
        refine lv_iconst (v := (2 : Int32)) hx hb (dk DX9_kindOf 16 rfl) (by decide) ?_
        cases hF
        exact r_iret C hrt hR (dk DX9_kindOf 17 rfl)
      · have hF := if_f c23 hF
        refine lv_iconst (v := (1 : Int32)) hx hb (dk DX9_kindOf 14 rfl) (by decide) ?_
        refine lv_goto (tgt := 31) hx hb (dk DX9_kindOf 15 rfl) (by decide) ?_
        cases hF
        exact r_iret C hrt hR (dk DX9_kindOf 17 rfl)
  refine lv_icmp_lt (tgt := 14) hx hb (dk DX9_kindOf 2 rfl) (by decide) (fun c3 => ?_) (fun c3 => ?_)
  · have hF := if_t c3 hF
    exact J14 m0 _ _ ls (lv_sub hl [0] rfl) hR hF
  · have hF := if_f c3 hF
    refine lv_iload_n hx hb (dk DX9_kindOf 3 rfl) rfl (lv_at hl 0 rfl) ?_
    refine lv_bipush (v := (122 : Int32)) hx hb (dk DX9_kindOf 4 rfl) (by decide) ?_
    refine lv_icmp_gt (tgt := 14) hx hb (dk DX9_kindOf 5 rfl) (by decide) (fun c9 => ?_) (fun c9 => ?_)
    · have hF := if_t c9 hF
      exact J14 m0 _ _ ls (lv_sub hl [0] rfl) hR hF
    · have hF := if_f c9 hF
      refine lv_iconst (v := (0 : Int32)) hx hb (dk DX9_kindOf 6 rfl) (by decide) ?_
      cases hF
      exact r_iret C hrt hR (dk DX9_kindOf 7 rfl)
set_option maxHeartbeats 4000000 in
set_option maxRecDepth 100000 in
theorem C_Tx_cutG (l : Launch) (hl0 : l.stackTraces = false) (G : GG) (a2 : Int32) (m0 : Mem) (v : Unit) (m' : Mem) (hF : F_Tx_cutG a2 m0 = some (v, m')) : Ct l G mr0 N0 yX9_cut cX9_cut 6 none 2 [.ref (G.2.1 + 46), .ref (G.2.1 + 1), .int a2] m0 none m' := by
  refine Ct_of hl0 (by decide) (Nat.le_of_ble_eq_true rfl) ?_
  intro p e s mid args below meth c ls C hrt hl hR
  have hx := C.1.1
  have hb := C.1.2.1
  have hl : lv_has ls 6 [(0, .ref (G.2.1 + 46)), (1, .ref (G.2.1 + 1)), (2, .int a2)] := hl
  unfold F_Tx_cutG at hF
  refine lv_aload_n hx hb (dk DX9_cut 0 rfl) rfl (lv_at hl 0 rfl) ?_
  refine lv_iconst (v := (0 : Int32)) hx hb (dk DX9_cut 1 rfl) (by decide) ?_
  refine pX9_24_2 (x := (0 : Int32)) C hR ob46 (dk DX9_cut 2 rfl) (fun H locs hR => ?_)
  obtain ⟨mq1, emq1, hF⟩ := lt_ex hF
  have hR := Rp_at emq1 hR
  refine lv_iconst (v := (0 : Int32)) hx hb (dk DX9_cut 3 rfl) (by decide) ?_
  refine lv_istore_n (lv' := [(3, .int (0 : Int32)), (0, .ref (G.2.1 + 46)), (1, .ref (G.2.1 + 1)), (2, .int a2)]) hx hb (dk DX9_cut 4 rfl) rfl hl (by decide) rfl (fun ls hl => ?_)
  obtain ⟨k98_2, ek98_2, hF⟩ := lt_ex hF
  have J98 : ∀ (mq2 : Mem) (H : Heap) (locs : List Loc) (ls : Array Slot), lv_has ls 6 [(0, .ref (G.2.1 + 46)), (2, .int a2)] → Rp G mr0 N0 mq2 s H locs → k98_2  mq2 = some (v, m') → W p l e (rmD 2) s mid args below meth c H locs 0 0 (MQ below (QR G mr0 N0 none m') args s 0 0 (fun q => G.2.1 ≤ q)) (F0 mid 98 ls []) := by
    intro  mq2 H locs ls hl hR hF
    rw [ek98_2] at hF
    refine lv_aload_n hx hb (dk DX9_cut 58 rfl) rfl (lv_at hl 0 rfl) ?_
    refine lv_iconst (v := (3 : Int32)) hx hb (dk DX9_cut 59 rfl) (by decide) ?_
    refine lv_iconst (v := (0 : Int32)) hx hb (dk DX9_cut 60 rfl) (by decide) ?_
    refine lv_iload_n hx hb (dk DX9_cut 61 rfl) rfl (lv_at hl 1 rfl) ?_
    refine r_mxI C (gd q813 rfl) (by decide) (Nat.le_of_ble_eq_true rfl) hl.1 ⟨Nat.zero_le _, Nat.zero_le _⟩ (dk DX9_cut 62 rfl) ?_
    refine lv_iconst (v := (0 : Int32)) hx hb (dk DX9_cut 63 rfl) (by decide) ?_
    refine lv_iload_n hx hb (dk DX9_cut 64 rfl) rfl (lv_at hl 1 rfl) ?_
    refine r_mxI C (gd q813 rfl) (by decide) (Nat.le_of_ble_eq_true rfl) hl.1 ⟨Nat.zero_le _, Nat.zero_le _⟩ (dk DX9_cut 65 rfl) ?_
    obtain ⟨uq5, mq3, hzq4, hF⟩ := bnd_ex hF
    refine r_callVv (As := [.int (3 : Int32), .int (mxI (0 : Int32) a2), .int (mxI (0 : Int32) a2)]) (rest := []) C hR (C_Tx_addThingG l hl0 G (3 : Int32) (mxI (0 : Int32) a2) (mxI (0 : Int32) a2) mq2 _ _ hzq4) (by decide) (by decide) ob46 rfl wX9_62_2 rfl rfl (Nat.le_of_ble_eq_true rfl) hl.1 ⟨Nat.zero_le _, Nat.zero_le _⟩ (dk DX9_cut 66 rfl) (fun H locs hR => ?_)
    cases hF
    exact r_vret C hrt hR (dk DX9_cut 67 rfl)
  have L7 : ∀ (nf : Nat) (xq7 : Int32) (mq6 : Mem) (H : Heap) (locs : List Loc) (ls : Array Slot), lv_has ls 6 [(0, .ref (G.2.1 + 46)), (1, .ref (G.2.1 + 1)), (2, .int a2), (3, .int xq7)] → Rp G mr0 N0 mq6 s H locs → F_Tx_cutG_L7 a2 k98_2 nf xq7 mq6 = some (v, m') → W p l e (rmD 2) s mid args below meth c H locs 0 0 (MQ below (QR G mr0 N0 none m') args s 0 0 (fun q => G.2.1 ≤ q)) (F0 mid 7 ls []) := by
    intro nf
    induction nf with
    | zero =>
      intro xq7 mq6 H locs ls hl hR hF
      rw [F_Tx_cutG_L7] at hF
      cases hF
    | succ nf ihq9 =>
      intro xq7 mq6 H locs ls hl hR hF
      rw [F_Tx_cutG_L7] at hF
      refine lv_iload_n hx hb (dk DX9_cut 5 rfl) rfl (lv_at hl 3 rfl) ?_
      refine lv_iload_n hx hb (dk DX9_cut 6 rfl) rfl (lv_at hl 2 rfl) ?_
      refine lv_icmp_ge (tgt := 98) hx hb (dk DX9_cut 7 rfl) (by decide) (fun c9 => ?_) (fun c9 => ?_)
      · have hF := if_t c9 hF
        exact J98 mq6 _ _ ls (lv_sub hl [0, 2] rfl) hR hF
      · have hF := if_f c9 hF
        refine lv_aload_n hx hb (dk DX9_cut 8 rfl) rfl (lv_at hl 0 rfl) ?_
        refine gX9_9_2 C hR ob46 rf46_0 (dk DX9_cut 9 rfl) ?_
        refine lv_iload_n hx hb (dk DX9_cut 10 rfl) rfl (lv_at hl 3 rfl) ?_
        refine lv_aload_n hx hb (dk DX9_cut 11 rfl) rfl (lv_at hl 1 rfl) ?_
        refine lv_iload_n hx hb (dk DX9_cut 12 rfl) rfl (lv_at hl 3 rfl) ?_
        obtain ⟨hq10, hF⟩ := ckB_ex hF
        refine r_iald C hR ob1 hq10 (dk DX9_cut 13 rfl) ?_
        refine lv_topi (fun xq11 exq11 => ?_)
        have hF := lt_at exq11 hF
        obtain ⟨hq13, hF⟩ := ckB_ex hF
        refine r_iast C hR ob47 hq13 (dk DX9_cut 14 rfl) (fun H locs hR => ?_)
        obtain ⟨mq12, emq12, hF⟩ := lt_ex hF
        have hR := Rp_at emq12 hR
        refine lv_iload_n hx hb (dk DX9_cut 15 rfl) rfl (lv_at hl 3 rfl) ?_
        refine lv_iconst (v := (1 : Int32)) hx hb (dk DX9_cut 16 rfl) (by decide) ?_
        refine lv_iadd hx hb (dk DX9_cut 17 rfl) ?_
        refine lv_topi (fun xq14 exq14 => ?_)
        have hF := lt_at exq14 hF
        refine lv_istore (lv' := [(4, .int xq14), (0, .ref (G.2.1 + 46)), (1, .ref (G.2.1 + 1)), (2, .int a2), (3, .int xq7)]) hx hb (dk DX9_cut 18 rfl) hl (by decide) rfl (fun ls hl => ?_)
        refine lv_aload_n hx hb (dk DX9_cut 19 rfl) rfl (lv_at hl 2 rfl) ?_
        refine lv_iload_n hx hb (dk DX9_cut 20 rfl) rfl (lv_at hl 4 rfl) ?_
        obtain ⟨hq15, hF⟩ := ckB_ex hF
        refine r_iald C hR ob1 hq15 (dk DX9_cut 21 rfl) ?_
        refine lv_topi (fun xq16 exq16 => ?_)
        have hF := lt_at exq16 hF
        obtain ⟨xq19, mq17, hzq18, hF⟩ := bnd_ex hF
        refine r_callSi (As := [.int xq16]) (rest := []) C hR (C_Tx_kindOf l hl0 G xq16 mq12 _ _ hzq18) (by decide) (by decide) wX9_58 rfl rfl (Nat.le_of_ble_eq_true rfl) hl.1 ⟨Nat.zero_le _, Nat.zero_le _⟩ (dk DX9_cut 22 rfl) (fun H locs hR => ?_)
        refine lv_istore (lv' := [(5, .int xq19), (4, .int xq14), (0, .ref (G.2.1 + 46)), (1, .ref (G.2.1 + 1)), (2, .int a2), (3, .int xq7)]) hx hb (dk DX9_cut 23 rfl) hl (by decide) rfl (fun ls hl => ?_)
        obtain ⟨k75_21, ek75_21, hF⟩ := lt_ex hF
        have J75 : ∀ (xq21 : Int32) (mq20 : Mem) (H : Heap) (locs : List Loc) (ls : Array Slot), lv_has ls 6 [(0, .ref (G.2.1 + 46)), (1, .ref (G.2.1 + 1)), (2, .int a2), (3, .int xq7), (4, .int xq21), (5, .int xq19)] → Rp G mr0 N0 mq20 s H locs → k75_21 xq21 mq20 = some (v, m') → W p l e (rmD 2) s mid args below meth c H locs 0 0 (MQ below (QR G mr0 N0 none m') args s 0 0 (fun q => G.2.1 ≤ q)) (F0 mid 75 ls []) := by
          intro xq21 mq20 H locs ls hl hR hF
          rw [ek75_21] at hF
          refine lv_aload_n hx hb (dk DX9_cut 45 rfl) rfl (lv_at hl 1 rfl) ?_
          refine lv_iload_n hx hb (dk DX9_cut 46 rfl) rfl (lv_at hl 3 rfl) ?_
          obtain ⟨hq22, hF⟩ := ckB_ex hF
          refine r_iald C hR ob1 hq22 (dk DX9_cut 47 rfl) ?_
          refine lv_topi (fun xq23 exq23 => ?_)
          have hF := lt_at exq23 hF
          refine lv_bipush (v := (32 : Int32)) hx hb (dk DX9_cut 48 rfl) (by decide) ?_
          obtain ⟨k92_24, ek92_24, hF⟩ := lt_ex hF
          have J92 : ∀ (mq24 : Mem) (H : Heap) (locs : List Loc) (ls : Array Slot), lv_has ls 6 [(0, .ref (G.2.1 + 46)), (1, .ref (G.2.1 + 1)), (2, .int a2), (4, .int xq21)] → Rp G mr0 N0 mq24 s H locs → k92_24  mq24 = some (v, m') → W p l e (rmD 2) s mid args below meth c H locs 0 0 (MQ below (QR G mr0 N0 none m') args s 0 0 (fun q => G.2.1 ≤ q)) (F0 mid 92 ls []) := by
            intro  mq24 H locs ls hl hR hF
            rw [ek92_24] at hF
            refine lv_iload hx hb (dk DX9_cut 55 rfl) (lv_at hl 3 rfl) ?_
            refine lv_istore_n (lv' := [(3, .int xq21), (0, .ref (G.2.1 + 46)), (1, .ref (G.2.1 + 1)), (2, .int a2), (4, .int xq21)]) hx hb (dk DX9_cut 56 rfl) rfl hl (by decide) rfl (fun ls hl => ?_)
            refine lv_goto (tgt := 7) hx hb (dk DX9_cut 57 rfl) (by decide) ?_
            exact ihq9 xq21 mq24 _ _ ls (lv_sub hl [1, 2, 3, 0] rfl) hR hF
          refine lv_icmp_eq (tgt := 92) hx hb (dk DX9_cut 49 rfl) (by decide) (fun c80 => ?_) (fun c80 => ?_)
          · have hF := if_t c80 hF
            exact J92 mq20 _ _ ls (lv_sub hl [0, 1, 2, 4] rfl) hR hF
          · have hF := if_f c80 hF
            refine lv_aload_n hx hb (dk DX9_cut 50 rfl) rfl (lv_at hl 0 rfl) ?_
            refine lv_iload hx hb (dk DX9_cut 51 rfl) (lv_at hl 5 rfl) ?_
            refine lv_iload_n hx hb (dk DX9_cut 52 rfl) rfl (lv_at hl 3 rfl) ?_
            refine lv_iload hx hb (dk DX9_cut 53 rfl) (lv_at hl 4 rfl) ?_
            obtain ⟨uq27, mq25, hzq26, hF⟩ := bnd_ex hF
            refine r_callVv (As := [.int xq19, .int xq7, .int xq21]) (rest := []) C hR (C_Tx_addThingG l hl0 G xq19 xq7 xq21 mq20 _ _ hzq26) (by decide) (by decide) ob46 rfl wX9_62_2 rfl rfl (Nat.le_of_ble_eq_true rfl) hl.1 ⟨Nat.zero_le _, Nat.zero_le _⟩ (dk DX9_cut 54 rfl) (fun H locs hR => ?_)
            exact J92 mq25 _ _ ls (lv_sub hl [0, 1, 2, 4] rfl) hR hF
        have L34 : ∀ (nf : Nat) (xq29 : Int32) (mq28 : Mem) (H : Heap) (locs : List Loc) (ls : Array Slot), lv_has ls 6 [(0, .ref (G.2.1 + 46)), (1, .ref (G.2.1 + 1)), (2, .int a2), (3, .int xq7), (4, .int xq29), (5, .int xq19)] → Rp G mr0 N0 mq28 s H locs → F_Tx_cutG_L34 a2 xq19 k75_21 nf xq29 mq28 = some (v, m') → W p l e (rmD 2) s mid args below meth c H locs 0 0 (MQ below (QR G mr0 N0 none m') args s 0 0 (fun q => G.2.1 ≤ q)) (F0 mid 34 ls []) := by
          intro nf
          induction nf with
          | zero =>
            intro xq29 mq28 H locs ls hl hR hF
            rw [F_Tx_cutG_L34] at hF
            cases hF
          | succ nf ihq31 =>
            intro xq29 mq28 H locs ls hl hR hF
            rw [F_Tx_cutG_L34] at hF
            refine lv_iload hx hb (dk DX9_cut 24 rfl) (lv_at hl 5 rfl) ?_
            refine lv_iconst (v := (2 : Int32)) hx hb (dk DX9_cut 25 rfl) (by decide) ?_
            refine lv_icmp_eq (tgt := 75) hx hb (dk DX9_cut 26 rfl) (by decide) (fun c37 => ?_) (fun c37 => ?_)
            · have hF := if_t c37 hF
              exact J75 xq29 mq28 _ _ ls (lv_sub hl [0, 1, 2, 3, 4, 5] rfl) hR hF
            · have hF := if_f c37 hF
              refine lv_iload hx hb (dk DX9_cut 27 rfl) (lv_at hl 4 rfl) ?_
              refine lv_iload_n hx hb (dk DX9_cut 28 rfl) rfl (lv_at hl 2 rfl) ?_
              refine lv_icmp_ge (tgt := 75) hx hb (dk DX9_cut 29 rfl) (by decide) (fun c43 => ?_) (fun c43 => ?_)
              · have hF := if_t c43 hF
                exact J75 xq29 mq28 _ _ ls (lv_sub hl [0, 1, 2, 3, 4, 5] rfl) hR hF
              · have hF := if_f c43 hF
                refine lv_aload_n hx hb (dk DX9_cut 30 rfl) rfl (lv_at hl 1 rfl) ?_
                refine lv_iload hx hb (dk DX9_cut 31 rfl) (lv_at hl 4 rfl) ?_
                obtain ⟨hq32, hF⟩ := ckB_ex hF
                refine r_iald C hR ob1 hq32 (dk DX9_cut 32 rfl) ?_
                refine lv_topi (fun xq33 exq33 => ?_)
                have hF := lt_at exq33 hF
                obtain ⟨xq36, mq34, hzq35, hF⟩ := bnd_ex hF
                refine r_callSi (As := [.int xq33]) (rest := []) C hR (C_Tx_kindOf l hl0 G xq33 mq28 _ _ hzq35) (by decide) (by decide) wX9_58 rfl rfl (Nat.le_of_ble_eq_true rfl) hl.1 ⟨Nat.zero_le _, Nat.zero_le _⟩ (dk DX9_cut 33 rfl) (fun H locs hR => ?_)
                refine lv_iload hx hb (dk DX9_cut 34 rfl) (lv_at hl 5 rfl) ?_
                refine lv_icmp_ne (tgt := 75) hx hb (dk DX9_cut 35 rfl) (by decide) (fun c55 => ?_) (fun c55 => ?_)
                · have hF := if_f c55 hF
                  exact J75 xq29 mq34 _ _ ls (lv_sub hl [0, 1, 2, 3, 4, 5] rfl) hR hF
                · have hF := if_t c55 hF
                  refine lv_aload_n hx hb (dk DX9_cut 36 rfl) rfl (lv_at hl 0 rfl) ?_
                  refine gX9_9_2 C hR ob46 rf46_0 (dk DX9_cut 37 rfl) ?_
                  refine lv_iload hx hb (dk DX9_cut 38 rfl) (lv_at hl 4 rfl) ?_
                  refine lv_aload_n hx hb (dk DX9_cut 39 rfl) rfl (lv_at hl 1 rfl) ?_
                  refine lv_iload hx hb (dk DX9_cut 40 rfl) (lv_at hl 4 rfl) ?_
                  obtain ⟨hq37, hF⟩ := ckB_ex hF
                  refine r_iald C hR ob1 hq37 (dk DX9_cut 41 rfl) ?_
                  refine lv_topi (fun xq38 exq38 => ?_)
                  have hF := lt_at exq38 hF
                  obtain ⟨hq40, hF⟩ := ckB_ex hF
                  refine r_iast C hR ob47 hq40 (dk DX9_cut 42 rfl) (fun H locs hR => ?_)
                  obtain ⟨mq39, emq39, hF⟩ := lt_ex hF
                  have hR := Rp_at emq39 hR
                  obtain ⟨xq41, exq41, hF⟩ := lt_ex hF
                  refine lv_iinc (v := xq41) (lv' := [(4, .int xq41), (0, .ref (G.2.1 + 46)), (1, .ref (G.2.1 + 1)), (2, .int a2), (3, .int xq7), (5, .int xq19)]) hx hb (dk DX9_cut 43 rfl) hl (k := 4) rfl (by rw [exq41]; rfl) (by decide) rfl (fun ls hl => ?_)
                  refine lv_goto (tgt := 34) hx hb (dk DX9_cut 44 rfl) (by decide) ?_
                  exact ihq31 xq41 mq39 _ _ ls (lv_sub hl [1, 2, 3, 4, 0, 5] rfl) hR hF
        exact L34 1000000 xq14 mq17 _ _ ls (lv_sub hl [2, 3, 4, 5, 1, 0] rfl) hR hF
  exact L7 1000000 (0 : Int32) mq1 _ _ ls (lv_sub hl [1, 2, 3, 0] rfl) hR hF
set_option maxHeartbeats 4000000 in
set_option maxRecDepth 100000 in
theorem C_Tx_isAtG (l : Launch) (hl0 : l.stackTraces = false) (G : GG) (a1 : Int32) (m0 : Mem) (v : Bool) (m' : Mem) (hF : F_Tx_isAtG a1 m0 = some (v, m')) : Ct l G mr0 N0 yX9_isAt cX9_isAt 2 (some .boolean) 1 [.ref (G.2.1 + 46), .int a1] m0 (some (.int (b2i v))) m' := by
  refine Ct_of hl0 (by decide) (Nat.le_of_ble_eq_true rfl) ?_
  intro p e s mid args below meth c ls C hrt hl hR
  have hx := C.1.1
  have hb := C.1.2.1
  have hl : lv_has ls 2 [(0, .ref (G.2.1 + 46)), (1, .int a1)] := hl
  unfold F_Tx_isAtG at hF
  refine lv_aload_n hx hb (dk DX9_isAt 0 rfl) rfl (lv_at hl 0 rfl) ?_
  refine gX9_31_2 C hR ob46 (dk DX9_isAt 1 rfl) ?_
  refine lv_iconst (v := (-1 : Int32)) hx hb (dk DX9_isAt 2 rfl) (by decide) ?_
  refine lv_icmp_ne (tgt := 53) hx hb (dk DX9_isAt 3 rfl) (by decide) (fun c5 => ?_) (fun c5 => ?_)
  · have hF := if_f c5 hF
    refine lv_iconst (v := (0 : Int32)) hx hb (dk DX9_isAt 25 rfl) (by decide) ?_
    cases hF
    exact r_zret C hrt hR (dk DX9_isAt 26 rfl)
  · have hF := if_t c5 hF
    refine lv_aload_n hx hb (dk DX9_isAt 4 rfl) rfl (lv_at hl 0 rfl) ?_
    refine gX9_28_2 C hR ob46 (dk DX9_isAt 5 rfl) ?_
    refine lv_if_lt (tgt := 53) hx hb (dk DX9_isAt 6 rfl) (by decide) (fun c12 => ?_) (fun c12 => ?_)
    · have hF := if_t c12 hF
      refine lv_iconst (v := (0 : Int32)) hx hb (dk DX9_isAt 25 rfl) (by decide) ?_
      cases hF
      exact r_zret C hrt hR (dk DX9_isAt 26 rfl)
    · have hF := if_f c12 hF
      refine lv_aload_n hx hb (dk DX9_isAt 7 rfl) rfl (lv_at hl 0 rfl) ?_
      refine gX9_28_2 C hR ob46 (dk DX9_isAt 8 rfl) ?_
      refine lv_aload_n hx hb (dk DX9_isAt 9 rfl) rfl (lv_at hl 0 rfl) ?_
      refine gX9_24_2 C hR ob46 (dk DX9_isAt 10 rfl) ?_
      refine lv_icmp_ge (tgt := 53) hx hb (dk DX9_isAt 11 rfl) (by decide) (fun c23 => ?_) (fun c23 => ?_)
      · have hF := if_t c23 hF
        refine lv_iconst (v := (0 : Int32)) hx hb (dk DX9_isAt 25 rfl) (by decide) ?_
        cases hF
        exact r_zret C hrt hR (dk DX9_isAt 26 rfl)
      · have hF := if_f c23 hF
        refine lv_aload_n hx hb (dk DX9_isAt 12 rfl) rfl (lv_at hl 0 rfl) ?_
        refine gX9_28_2 C hR ob46 (dk DX9_isAt 13 rfl) ?_
        refine lv_sipush (v := (400 : Int32)) hx hb (dk DX9_isAt 14 rfl) (by decide) ?_
        refine lv_icmp_gt (tgt := 53) hx hb (dk DX9_isAt 15 rfl) (by decide) (fun c33 => ?_) (fun c33 => ?_)
        · have hF := if_t c33 hF
          refine lv_iconst (v := (0 : Int32)) hx hb (dk DX9_isAt 25 rfl) (by decide) ?_
          cases hF
          exact r_zret C hrt hR (dk DX9_isAt 26 rfl)
        · have hF := if_f c33 hF
          refine lv_aload_n hx hb (dk DX9_isAt 16 rfl) rfl (lv_at hl 0 rfl) ?_
          refine gX9_15_2 C hR ob46 rf46_1 (dk DX9_isAt 17 rfl) ?_
          refine lv_aload_n hx hb (dk DX9_isAt 18 rfl) rfl (lv_at hl 0 rfl) ?_
          refine gX9_28_2 C hR ob46 (dk DX9_isAt 19 rfl) ?_
          obtain ⟨hq1, hF⟩ := ckB_ex hF
          refine r_iald C hR ob48 hq1 (dk DX9_isAt 20 rfl) ?_
          refine lv_topi (fun xq2 exq2 => ?_)
          have hF := lt_at exq2 hF
          refine lv_iload_n hx hb (dk DX9_isAt 21 rfl) rfl (lv_at hl 1 rfl) ?_
          refine lv_icmp_ne (tgt := 53) hx hb (dk DX9_isAt 22 rfl) (by decide) (fun c46 => ?_) (fun c46 => ?_)
          · have hF := if_f c46 hF
            refine lv_iconst (v := (0 : Int32)) hx hb (dk DX9_isAt 25 rfl) (by decide) ?_
            cases hF
            exact r_zret C hrt hR (dk DX9_isAt 26 rfl)
          · have hF := if_t c46 hF
            refine lv_iconst (v := (1 : Int32)) hx hb (dk DX9_isAt 23 rfl) (by decide) ?_
            refine lv_goto (tgt := 54) hx hb (dk DX9_isAt 24 rfl) (by decide) ?_
            cases hF
            exact r_zret C hrt hR (dk DX9_isAt 26 rfl)
set_option maxHeartbeats 4000000 in
set_option maxRecDepth 100000 in
theorem C_Tx_setWrongG (l : Launch) (hl0 : l.stackTraces = false) (G : GG) (m0 : Mem) (v : Unit) (m' : Mem) (hF : F_Tx_setWrongG m0 = some (v, m')) : Ct l G mr0 N0 yX9_setWrong cX9_setWrong 1 none 1 [.ref (G.2.1 + 46)] m0 none m' := by
  refine Ct_of hl0 (by decide) (Nat.le_of_ble_eq_true rfl) ?_
  intro p e s mid args below meth c ls C hrt hl hR
  have hx := C.1.1
  have hb := C.1.2.1
  have hl : lv_has ls 1 [(0, .ref (G.2.1 + 46))] := hl
  unfold F_Tx_setWrongG at hF
  refine lv_aload_n hx hb (dk DX9_setWrong 0 rfl) rfl (lv_at hl 0 rfl) ?_
  refine gX9_31_2 C hR ob46 (dk DX9_setWrong 1 rfl) ?_
  refine lv_iconst (v := (-1 : Int32)) hx hb (dk DX9_setWrong 2 rfl) (by decide) ?_
  refine lv_icmp_ne (tgt := 38) hx hb (dk DX9_setWrong 3 rfl) (by decide) (fun c5 => ?_) (fun c5 => ?_)
  · have hF := if_f c5 hF
    cases hF
    exact r_vret C hrt hR (dk DX9_setWrong 18 rfl)
  · have hF := if_t c5 hF
    refine lv_aload_n hx hb (dk DX9_setWrong 4 rfl) rfl (lv_at hl 0 rfl) ?_
    refine gX9_28_2 C hR ob46 (dk DX9_setWrong 5 rfl) ?_
    refine lv_if_lt (tgt := 38) hx hb (dk DX9_setWrong 6 rfl) (by decide) (fun c12 => ?_) (fun c12 => ?_)
    · have hF := if_t c12 hF
      cases hF
      exact r_vret C hrt hR (dk DX9_setWrong 18 rfl)
    · have hF := if_f c12 hF
      refine lv_aload_n hx hb (dk DX9_setWrong 7 rfl) rfl (lv_at hl 0 rfl) ?_
      refine gX9_28_2 C hR ob46 (dk DX9_setWrong 8 rfl) ?_
      refine lv_sipush (v := (400 : Int32)) hx hb (dk DX9_setWrong 9 rfl) (by decide) ?_
      refine lv_icmp_gt (tgt := 38) hx hb (dk DX9_setWrong 10 rfl) (by decide) (fun c22 => ?_) (fun c22 => ?_)
      · have hF := if_t c22 hF
        cases hF
        exact r_vret C hrt hR (dk DX9_setWrong 18 rfl)
      · have hF := if_f c22 hF
        refine lv_aload_n hx hb (dk DX9_setWrong 11 rfl) rfl (lv_at hl 0 rfl) ?_
        refine lv_aload_n hx hb (dk DX9_setWrong 12 rfl) rfl (lv_at hl 0 rfl) ?_
        refine gX9_18_2 C hR ob46 rf46_2 (dk DX9_setWrong 13 rfl) ?_
        refine lv_aload_n hx hb (dk DX9_setWrong 14 rfl) rfl (lv_at hl 0 rfl) ?_
        refine gX9_28_2 C hR ob46 (dk DX9_setWrong 15 rfl) ?_
        obtain ⟨hq1, hF⟩ := ckB_ex hF
        refine r_iald C hR ob49 hq1 (dk DX9_setWrong 16 rfl) ?_
        refine lv_topi (fun xq2 exq2 => ?_)
        have hF := lt_at exq2 hF
        refine pX9_31_2 (x := xq2) C hR ob46 (dk DX9_setWrong 17 rfl) (fun H locs hR => ?_)
        obtain ⟨mq3, emq3, hF⟩ := lt_ex hF
        have hR := Rp_at emq3 hR
        cases hF
        exact r_vret C hrt hR (dk DX9_setWrong 18 rfl)
set_option maxHeartbeats 4000000 in
set_option maxRecDepth 100000 in
theorem C_Tx_byteAtG (l : Launch) (hl0 : l.stackTraces = false) (G : GG) (a1 : Int32) (m0 : Mem) (v : Int32) (m' : Mem) (hF : F_Tx_byteAtG a1 m0 = some (v, m')) : Ct l G mr0 N0 yX9_byteAt cX9_byteAt 2 (some .int) 1 [.ref (G.2.1 + 46), .int a1] m0 (some (.int v)) m' := by
  refine Ct_of hl0 (by decide) (Nat.le_of_ble_eq_true rfl) ?_
  intro p e s mid args below meth c ls C hrt hl hR
  have hx := C.1.1
  have hb := C.1.2.1
  have hl : lv_has ls 2 [(0, .ref (G.2.1 + 46)), (1, .int a1)] := hl
  unfold F_Tx_byteAtG at hF
  refine lv_iload_n hx hb (dk DX9_byteAt 0 rfl) rfl (lv_at hl 1 rfl) ?_
  refine lv_if_lt (tgt := 11) hx hb (dk DX9_byteAt 1 rfl) (by decide) (fun c1 => ?_) (fun c1 => ?_)
  · have hF := if_t c1 hF
    refine lv_iconst (v := (-1 : Int32)) hx hb (dk DX9_byteAt 5 rfl) (by decide) ?_
    refine lv_goto (tgt := 21) hx hb (dk DX9_byteAt 6 rfl) (by decide) ?_
    cases hF
    exact r_iret C hrt hR (dk DX9_byteAt 11 rfl)
  · have hF := if_f c1 hF
    refine lv_iload_n hx hb (dk DX9_byteAt 2 rfl) rfl (lv_at hl 1 rfl) ?_
    refine lv_sipush (v := (400 : Int32)) hx hb (dk DX9_byteAt 3 rfl) (by decide) ?_
    refine lv_icmp_lt (tgt := 15) hx hb (dk DX9_byteAt 4 rfl) (by decide) (fun c8 => ?_) (fun c8 => ?_)
    · have hF := if_t c8 hF
      refine lv_aload_n hx hb (dk DX9_byteAt 7 rfl) rfl (lv_at hl 0 rfl) ?_
      refine gX9_9_2 C hR ob46 rf46_0 (dk DX9_byteAt 8 rfl) ?_
      refine lv_iload_n hx hb (dk DX9_byteAt 9 rfl) rfl (lv_at hl 1 rfl) ?_
      obtain ⟨hq1, hF⟩ := ckB_ex hF
      refine r_iald C hR ob47 hq1 (dk DX9_byteAt 10 rfl) ?_
      refine lv_topi (fun xq2 exq2 => ?_)
      have hF := lt_at exq2 hF
      cases hF
      exact r_iret C hrt hR (dk DX9_byteAt 11 rfl)
    · have hF := if_f c8 hF
      refine lv_iconst (v := (-1 : Int32)) hx hb (dk DX9_byteAt 5 rfl) (by decide) ?_
      refine lv_goto (tgt := 21) hx hb (dk DX9_byteAt 6 rfl) (by decide) ?_
      cases hF
      exact r_iret C hrt hR (dk DX9_byteAt 11 rfl)
set_option maxHeartbeats 4000000 in
set_option maxRecDepth 100000 in
theorem C_Tx_takesWordG (l : Launch) (hl0 : l.stackTraces = false) (G : GG) (tx1 : String) (m0 : Mem) (htx_tx1 : tx1 ∈ strL.map (fun q => q.2.2)) (v : Bool) (m' : Mem) (hF : F_Tx_takesWordG tx1 m0 = some (v, m')) : Ct l G mr0 N0 yX9_takesWord cX9_takesWord 3 (some .boolean) 9 [.ref (G.2.1 + 46), .ref (G.2.2.2.2.2.2 tx1)] m0 (some (.int (b2i v))) m' := by
  refine Ct_of hl0 (by decide) (Nat.le_of_ble_eq_true rfl) ?_
  intro p e s mid args below meth c ls C hrt hl hR
  have hx := C.1.1
  have hb := C.1.2.1
  have hl : lv_has ls 3 [(0, .ref (G.2.1 + 46)), (1, .ref (G.2.2.2.2.2.2 tx1))] := hl
  unfold F_Tx_takesWordG at hF
  refine lv_aload_n hx hb (dk DX9_takesWord 0 rfl) rfl (lv_at hl 0 rfl) ?_
  refine lv_iconst (v := (0 : Int32)) hx hb (dk DX9_takesWord 1 rfl) (by decide) ?_
  obtain ⟨zq3, mq1, hzq2, hF⟩ := bnd_ex hF
  refine r_callVi (As := [.int (0 : Int32)]) (rest := []) C hR (C_Tx_isAtG l hl0 G (0 : Int32) m0 _ _ hzq2) (by decide) (by decide) ob46 rfl wX9_44_2 rfl rfl (Nat.le_of_ble_eq_true rfl) hl.1 ⟨Nat.zero_le _, Nat.zero_le _⟩ (dk DX9_takesWord 2 rfl) (fun H locs hR => ?_)
  refine z_ifeq (tgt := 34) hx hb (dk DX9_takesWord 3 rfl) (by decide) (fun c5 => ?_) (fun c5 => ?_)
  · have hF := if_f c5 hF
    refine lv_iconst (v := (0 : Int32)) hx hb (dk DX9_takesWord 18 rfl) (by decide) ?_
    cases hF
    exact r_zret C hrt hR (dk DX9_takesWord 19 rfl)
  · have hF := if_t c5 hF
    refine lv_aload_n hx hb (dk DX9_takesWord 4 rfl) rfl (lv_at hl 0 rfl) ?_
    refine gX9_21_2 C hR ob46 rf46_3 (dk DX9_takesWord 5 rfl) ?_
    refine lv_aload_n hx hb (dk DX9_takesWord 6 rfl) rfl (lv_at hl 0 rfl) ?_
    refine gX9_28_2 C hR ob46 (dk DX9_takesWord 7 rfl) ?_
    obtain ⟨hq4, hF⟩ := ckB_ex hF
    refine r_iald C hR ob50 hq4 (dk DX9_takesWord 8 rfl) ?_
    refine lv_topi (fun xq5 exq5 => ?_)
    have hF := lt_at exq5 hF
    refine lv_aload_n hx hb (dk DX9_takesWord 9 rfl) rfl (lv_at hl 0 rfl) ?_
    refine gX9_18_2 C hR ob46 rf46_2 (dk DX9_takesWord 10 rfl) ?_
    refine lv_aload_n hx hb (dk DX9_takesWord 11 rfl) rfl (lv_at hl 0 rfl) ?_
    refine gX9_28_2 C hR ob46 (dk DX9_takesWord 12 rfl) ?_
    obtain ⟨hq6, hF⟩ := ckB_ex hF
    refine r_iald C hR ob49 hq6 (dk DX9_takesWord 13 rfl) ?_
    refine lv_topi (fun xq7 exq7 => ?_)
    have hF := lt_at exq7 hF
    refine lv_isub hx hb (dk DX9_takesWord 14 rfl) ?_
    refine lv_aload_n hx hb (dk DX9_takesWord 15 rfl) rfl (lv_at hl 1 rfl) ?_
    refine r_slen C hR htx_tx1 (gd q831 rfl) (by decide) (Nat.le_of_ble_eq_true rfl) hl.1 ⟨Nat.zero_le _, Nat.zero_le _⟩ (dk DX9_takesWord 16 rfl) (fun H locs hR => ?_)
    refine lv_icmp_eq (tgt := 36) hx hb (dk DX9_takesWord 17 rfl) (by decide) (fun c31 => ?_) (fun c31 => ?_)
    · have hF := if_t c31 hF
      refine lv_iconst (v := (0 : Int32)) hx hb (dk DX9_takesWord 20 rfl) (by decide) ?_
      refine lv_istore_n (lv' := [(2, .int (0 : Int32)), (0, .ref (G.2.1 + 46)), (1, .ref (G.2.2.2.2.2.2 tx1))]) hx hb (dk DX9_takesWord 21 rfl) rfl hl (by decide) rfl (fun ls hl => ?_)
      obtain ⟨k77_8, ek77_8, hF⟩ := lt_ex hF
      have J77 : ∀ (mq8 : Mem) (H : Heap) (locs : List Loc) (ls : Array Slot), lv_has ls 3 [(0, .ref (G.2.1 + 46))] → Rp G mr0 N0 mq8 s H locs → k77_8  mq8 = some (v, m') → W p l e (rmD 9) s mid args below meth c H locs 0 0 (MQ below (QR G mr0 N0 (some (.int (b2i v))) m') args s 0 0 (fun q => G.2.1 ≤ q)) (F0 mid 77 ls []) := by
        intro  mq8 H locs ls hl hR hF
        rw [ek77_8] at hF
        refine lv_aload_n hx hb (dk DX9_takesWord 43 rfl) rfl (lv_at hl 0 rfl) ?_
        refine lv_dup hx hb (dk DX9_takesWord 44 rfl) rfl ?_
        refine gX9_28_2 C hR ob46 (dk DX9_takesWord 45 rfl) ?_
        refine lv_iconst (v := (1 : Int32)) hx hb (dk DX9_takesWord 46 rfl) (by decide) ?_
        refine lv_iadd hx hb (dk DX9_takesWord 47 rfl) ?_
        refine pX9_28_2 (x := (gI mq8 46 5) + (1 : Int32)) C hR ob46 (dk DX9_takesWord 48 rfl) (fun H locs hR => ?_)
        obtain ⟨mq9, emq9, hF⟩ := lt_ex hF
        have hR := Rp_at emq9 hR
        refine lv_iconst (v := (1 : Int32)) hx hb (dk DX9_takesWord 49 rfl) (by decide) ?_
        cases hF
        exact r_zret C hrt hR (dk DX9_takesWord 50 rfl)
      have L38 : ∀ (nf : Nat) (xq11 : Int32) (mq10 : Mem) (H : Heap) (locs : List Loc) (ls : Array Slot), lv_has ls 3 [(0, .ref (G.2.1 + 46)), (1, .ref (G.2.2.2.2.2.2 tx1)), (2, .int xq11)] → Rp G mr0 N0 mq10 s H locs → F_Tx_takesWordG_L38 tx1 k77_8 nf xq11 mq10 = some (v, m') → W p l e (rmD 9) s mid args below meth c H locs 0 0 (MQ below (QR G mr0 N0 (some (.int (b2i v))) m') args s 0 0 (fun q => G.2.1 ≤ q)) (F0 mid 38 ls []) := by
        intro nf
        induction nf with
        | zero =>
          intro xq11 mq10 H locs ls hl hR hF
          rw [F_Tx_takesWordG_L38] at hF
          cases hF
        | succ nf ihq13 =>
          intro xq11 mq10 H locs ls hl hR hF
          rw [F_Tx_takesWordG_L38] at hF
          refine lv_iload_n hx hb (dk DX9_takesWord 22 rfl) rfl (lv_at hl 2 rfl) ?_
          refine lv_aload_n hx hb (dk DX9_takesWord 23 rfl) rfl (lv_at hl 1 rfl) ?_
          refine r_slen C hR htx_tx1 (gd q831 rfl) (by decide) (Nat.le_of_ble_eq_true rfl) hl.1 ⟨Nat.zero_le _, Nat.zero_le _⟩ (dk DX9_takesWord 24 rfl) (fun H locs hR => ?_)
          refine lv_icmp_ge (tgt := 77) hx hb (dk DX9_takesWord 25 rfl) (by decide) (fun c43 => ?_) (fun c43 => ?_)
          · have hF := if_t c43 hF
            exact J77 mq10 _ _ ls (lv_sub hl [0] rfl) hR hF
          · have hF := if_f c43 hF
            refine lv_aload_n hx hb (dk DX9_takesWord 26 rfl) rfl (lv_at hl 0 rfl) ?_
            refine lv_aload_n hx hb (dk DX9_takesWord 27 rfl) rfl (lv_at hl 0 rfl) ?_
            refine gX9_18_2 C hR ob46 rf46_2 (dk DX9_takesWord 28 rfl) ?_
            refine lv_aload_n hx hb (dk DX9_takesWord 29 rfl) rfl (lv_at hl 0 rfl) ?_
            refine gX9_28_2 C hR ob46 (dk DX9_takesWord 30 rfl) ?_
            obtain ⟨hq14, hF⟩ := ckB_ex hF
            refine r_iald C hR ob49 hq14 (dk DX9_takesWord 31 rfl) ?_
            refine lv_topi (fun xq15 exq15 => ?_)
            have hF := lt_at exq15 hF
            refine lv_iload_n hx hb (dk DX9_takesWord 32 rfl) rfl (lv_at hl 2 rfl) ?_
            refine lv_iadd hx hb (dk DX9_takesWord 33 rfl) ?_
            obtain ⟨xq18, mq16, hzq17, hF⟩ := bnd_ex hF
            refine r_callVi (As := [.int (xq15 + xq11)]) (rest := []) C hR (C_Tx_byteAtG l hl0 G (xq15 + xq11) mq10 _ _ hzq17) (by decide) (by decide) ob46 rfl wX9_69_2 rfl rfl (Nat.le_of_ble_eq_true rfl) hl.1 ⟨Nat.zero_le _, Nat.zero_le _⟩ (dk DX9_takesWord 34 rfl) (fun H locs hR => ?_)
            refine lv_aload_n hx hb (dk DX9_takesWord 35 rfl) rfl (lv_at hl 1 rfl) ?_
            refine lv_iload_n hx hb (dk DX9_takesWord 36 rfl) rfl (lv_at hl 2 rfl) ?_
            obtain ⟨hq19, hF⟩ := ckB_ex hF
            refine r_schar C hR htx_tx1 hq19 (gd q845 rfl) (by decide) (Nat.le_of_ble_eq_true rfl) hl.1 ⟨Nat.zero_le _, Nat.zero_le _⟩ (dk DX9_takesWord 37 rfl) (fun H locs hR => ?_)
            refine lv_icmp_eq (tgt := 71) hx hb (dk DX9_takesWord 38 rfl) (by decide) (fun c66 => ?_) (fun c66 => ?_)
            · have hF := if_t c66 hF
              obtain ⟨xq20, exq20, hF⟩ := lt_ex hF
              refine lv_iinc (v := xq20) (lv' := [(2, .int xq20), (0, .ref (G.2.1 + 46)), (1, .ref (G.2.2.2.2.2.2 tx1))]) hx hb (dk DX9_takesWord 41 rfl) hl (k := 2) rfl (by rw [exq20]; rfl) (by decide) rfl (fun ls hl => ?_)
              refine lv_goto (tgt := 38) hx hb (dk DX9_takesWord 42 rfl) (by decide) ?_
              exact ihq13 xq20 mq16 _ _ ls (lv_sub hl [1, 2, 0] rfl) hR hF
            · have hF := if_f c66 hF
              refine lv_iconst (v := (0 : Int32)) hx hb (dk DX9_takesWord 39 rfl) (by decide) ?_
              cases hF
              exact r_zret C hrt hR (dk DX9_takesWord 40 rfl)
      exact L38 1000000 (0 : Int32) mq1 _ _ ls (lv_sub hl [1, 2, 0] rfl) hR hF
    · have hF := if_f c31 hF
      refine lv_iconst (v := (0 : Int32)) hx hb (dk DX9_takesWord 18 rfl) (by decide) ?_
      cases hF
      exact r_zret C hrt hR (dk DX9_takesWord 19 rfl)
set_option maxHeartbeats 4000000 in
set_option maxRecDepth 100000 in
theorem C_Tx_numberG (l : Launch) (hl0 : l.stackTraces = false) (G : GG) (a1 : Int32) (a2 : Int32) (m0 : Mem) (v : Int32) (m' : Mem) (hF : F_Tx_numberG a1 a2 m0 = some (v, m')) : Ct l G mr0 N0 yX9_number cX9_number 5 (some .int) 2 [.ref (G.2.1 + 46), .int a1, .int a2] m0 (some (.int v)) m' := by
  refine Ct_of hl0 (by decide) (Nat.le_of_ble_eq_true rfl) ?_
  intro p e s mid args below meth c ls C hrt hl hR
  have hx := C.1.1
  have hb := C.1.2.1
  have hl : lv_has ls 5 [(0, .ref (G.2.1 + 46)), (1, .int a1), (2, .int a2)] := hl
  unfold F_Tx_numberG at hF
  refine lv_aload_n hx hb (dk DX9_number 0 rfl) rfl (lv_at hl 0 rfl) ?_
  refine lv_iconst (v := (1 : Int32)) hx hb (dk DX9_number 1 rfl) (by decide) ?_
  obtain ⟨zq3, mq1, hzq2, hF⟩ := bnd_ex hF
  refine r_callVi (As := [.int (1 : Int32)]) (rest := []) C hR (C_Tx_isAtG l hl0 G (1 : Int32) m0 _ _ hzq2) (by decide) (by decide) ob46 rfl wX9_44_2 rfl rfl (Nat.le_of_ble_eq_true rfl) hl.1 ⟨Nat.zero_le _, Nat.zero_le _⟩ (dk DX9_number 2 rfl) (fun H locs hR => ?_)
  refine z_ifne (tgt := 14) hx hb (dk DX9_number 3 rfl) (by decide) (fun c5 => ?_) (fun c5 => ?_)
  · have hF := if_t c5 hF
    refine lv_iconst (v := (0 : Int32)) hx hb (dk DX9_number 8 rfl) (by decide) ?_
    refine lv_istore_n (lv' := [(3, .int (0 : Int32)), (0, .ref (G.2.1 + 46)), (1, .int a1), (2, .int a2)]) hx hb (dk DX9_number 9 rfl) rfl hl (by decide) rfl (fun ls hl => ?_)
    refine lv_aload_n hx hb (dk DX9_number 10 rfl) rfl (lv_at hl 1 rfl) ?_
    refine gX9_18_2 C hR ob46 rf46_2 (dk DX9_number 11 rfl) ?_
    refine lv_aload_n hx hb (dk DX9_number 12 rfl) rfl (lv_at hl 1 rfl) ?_
    refine gX9_28_2 C hR ob46 (dk DX9_number 13 rfl) ?_
    obtain ⟨hq4, hF⟩ := ckB_ex hF
    refine r_iald C hR ob49 hq4 (dk DX9_number 14 rfl) ?_
    refine lv_topi (fun xq5 exq5 => ?_)
    have hF := lt_at exq5 hF
    refine lv_istore (lv' := [(4, .int xq5), (3, .int (0 : Int32)), (0, .ref (G.2.1 + 46)), (1, .int a1), (2, .int a2)]) hx hb (dk DX9_number 15 rfl) hl (by decide) rfl (fun ls hl => ?_)
    obtain ⟨k78_7, ek78_7, hF⟩ := lt_ex hF
    have J78 : ∀ (xq7 : Int32) (mq6 : Mem) (H : Heap) (locs : List Loc) (ls : Array Slot), lv_has ls 5 [(0, .ref (G.2.1 + 46)), (1, .int a1), (2, .int a2), (3, .int xq7)] → Rp G mr0 N0 mq6 s H locs → k78_7 xq7 mq6 = some (v, m') → W p l e (rmD 2) s mid args below meth c H locs 0 0 (MQ below (QR G mr0 N0 (some (.int v)) m') args s 0 0 (fun q => G.2.1 ≤ q)) (F0 mid 78 ls []) := by
      intro xq7 mq6 H locs ls hl hR hF
      rw [ek78_7] at hF
      refine lv_aload_n hx hb (dk DX9_number 44 rfl) rfl (lv_at hl 0 rfl) ?_
      refine gX9_21_2 C hR ob46 rf46_3 (dk DX9_number 45 rfl) ?_
      refine lv_aload_n hx hb (dk DX9_number 46 rfl) rfl (lv_at hl 0 rfl) ?_
      refine gX9_28_2 C hR ob46 (dk DX9_number 47 rfl) ?_
      obtain ⟨hq8, hF⟩ := ckB_ex hF
      refine r_iald C hR ob50 hq8 (dk DX9_number 48 rfl) ?_
      refine lv_topi (fun xq9 exq9 => ?_)
      have hF := lt_at exq9 hF
      refine lv_aload_n hx hb (dk DX9_number 49 rfl) rfl (lv_at hl 0 rfl) ?_
      refine gX9_18_2 C hR ob46 rf46_2 (dk DX9_number 50 rfl) ?_
      refine lv_aload_n hx hb (dk DX9_number 51 rfl) rfl (lv_at hl 0 rfl) ?_
      refine gX9_28_2 C hR ob46 (dk DX9_number 52 rfl) ?_
      obtain ⟨hq10, hF⟩ := ckB_ex hF
      refine r_iald C hR ob49 hq10 (dk DX9_number 53 rfl) ?_
      refine lv_topi (fun xq11 exq11 => ?_)
      have hF := lt_at exq11 hF
      refine lv_isub hx hb (dk DX9_number 54 rfl) ?_
      refine lv_iconst (v := (3 : Int32)) hx hb (dk DX9_number 55 rfl) (by decide) ?_
      obtain ⟨k111_12, ek111_12, hF⟩ := lt_ex hF
      have J111 : ∀ (mq12 : Mem) (H : Heap) (locs : List Loc) (ls : Array Slot), lv_has ls 5 [(0, .ref (G.2.1 + 46)), (1, .int a1)] → Rp G mr0 N0 mq12 s H locs → k111_12  mq12 = some (v, m') → W p l e (rmD 2) s mid args below meth c H locs 0 0 (MQ below (QR G mr0 N0 (some (.int v)) m') args s 0 0 (fun q => G.2.1 ≤ q)) (F0 mid 111 ls []) := by
        intro  mq12 H locs ls hl hR hF
        rw [ek111_12] at hF
        refine lv_aload_n hx hb (dk DX9_number 63 rfl) rfl (lv_at hl 0 rfl) ?_
        obtain ⟨uq15, mq13, hzq14, hF⟩ := bnd_ex hF
        refine r_callVv (As := []) (rest := []) C hR (C_Tx_setWrongG l hl0 G mq12 _ _ hzq14) (by decide) (by decide) ob46 rfl wX9_55_2 rfl rfl (Nat.le_of_ble_eq_true rfl) hl.1 ⟨Nat.zero_le _, Nat.zero_le _⟩ (dk DX9_number 64 rfl) (fun H locs hR => ?_)
        refine lv_iload_n hx hb (dk DX9_number 65 rfl) rfl (lv_at hl 1 rfl) ?_
        cases hF
        exact r_iret C hrt hR (dk DX9_number 66 rfl)
      refine lv_icmp_gt (tgt := 111) hx hb (dk DX9_number 56 rfl) (by decide) (fun c98 => ?_) (fun c98 => ?_)
      · have hF := if_t c98 hF
        exact J111 mq6 _ _ ls (lv_sub hl [0, 1] rfl) hR hF
      · have hF := if_f c98 hF
        refine lv_iload_n hx hb (dk DX9_number 57 rfl) rfl (lv_at hl 3 rfl) ?_
        refine lv_iload_n hx hb (dk DX9_number 58 rfl) rfl (lv_at hl 1 rfl) ?_
        refine lv_icmp_lt (tgt := 111) hx hb (dk DX9_number 59 rfl) (by decide) (fun c103 => ?_) (fun c103 => ?_)
        · have hF := if_t c103 hF
          exact J111 mq6 _ _ ls (lv_sub hl [0, 1] rfl) hR hF
        · have hF := if_f c103 hF
          refine lv_iload_n hx hb (dk DX9_number 60 rfl) rfl (lv_at hl 3 rfl) ?_
          refine lv_iload_n hx hb (dk DX9_number 61 rfl) rfl (lv_at hl 2 rfl) ?_
          refine lv_icmp_le (tgt := 117) hx hb (dk DX9_number 62 rfl) (by decide) (fun c108 => ?_) (fun c108 => ?_)
          · have hF := if_t c108 hF
            refine lv_aload_n hx hb (dk DX9_number 67 rfl) rfl (lv_at hl 0 rfl) ?_
            refine lv_dup hx hb (dk DX9_number 68 rfl) rfl ?_
            refine gX9_28_2 C hR ob46 (dk DX9_number 69 rfl) ?_
            refine lv_iconst (v := (1 : Int32)) hx hb (dk DX9_number 70 rfl) (by decide) ?_
            refine lv_iadd hx hb (dk DX9_number 71 rfl) ?_
            refine pX9_28_2 (x := (gI mq6 46 5) + (1 : Int32)) C hR ob46 (dk DX9_number 72 rfl) (fun H locs hR => ?_)
            obtain ⟨mq16, emq16, hF⟩ := lt_ex hF
            have hR := Rp_at emq16 hR
            refine lv_iload_n hx hb (dk DX9_number 73 rfl) rfl (lv_at hl 3 rfl) ?_
            cases hF
            exact r_iret C hrt hR (dk DX9_number 74 rfl)
          · have hF := if_f c108 hF
            exact J111 mq6 _ _ ls (lv_sub hl [0, 1] rfl) hR hF
    have L27 : ∀ (nf : Nat) (xq18 : Int32) (xq19 : Int32) (mq17 : Mem) (H : Heap) (locs : List Loc) (ls : Array Slot), lv_has ls 5 [(0, .ref (G.2.1 + 46)), (1, .int a1), (2, .int a2), (3, .int xq18), (4, .int xq19)] → Rp G mr0 N0 mq17 s H locs → F_Tx_numberG_L27 k78_7 nf xq18 xq19 mq17 = some (v, m') → W p l e (rmD 2) s mid args below meth c H locs 0 0 (MQ below (QR G mr0 N0 (some (.int v)) m') args s 0 0 (fun q => G.2.1 ≤ q)) (F0 mid 27 ls []) := by
      intro nf
      induction nf with
      | zero =>
        intro xq18 xq19 mq17 H locs ls hl hR hF
        rw [F_Tx_numberG_L27] at hF
        cases hF
      | succ nf ihq21 =>
        intro xq18 xq19 mq17 H locs ls hl hR hF
        rw [F_Tx_numberG_L27] at hF
        refine lv_iload hx hb (dk DX9_number 16 rfl) (lv_at hl 4 rfl) ?_
        refine lv_aload_n hx hb (dk DX9_number 17 rfl) rfl (lv_at hl 0 rfl) ?_
        refine gX9_21_2 C hR ob46 rf46_3 (dk DX9_number 18 rfl) ?_
        refine lv_aload_n hx hb (dk DX9_number 19 rfl) rfl (lv_at hl 0 rfl) ?_
        refine gX9_28_2 C hR ob46 (dk DX9_number 20 rfl) ?_
        obtain ⟨hq22, hF⟩ := ckB_ex hF
        refine r_iald C hR ob50 hq22 (dk DX9_number 21 rfl) ?_
        refine lv_topi (fun xq23 exq23 => ?_)
        have hF := lt_at exq23 hF
        refine lv_icmp_ge (tgt := 78) hx hb (dk DX9_number 22 rfl) (by decide) (fun c38 => ?_) (fun c38 => ?_)
        · have hF := if_t c38 hF
          exact J78 xq18 mq17 _ _ ls (lv_sub hl [0, 1, 2, 3] rfl) hR hF
        · have hF := if_f c38 hF
          refine lv_iload hx hb (dk DX9_number 23 rfl) (lv_at hl 4 rfl) ?_
          refine lv_aload_n hx hb (dk DX9_number 24 rfl) rfl (lv_at hl 0 rfl) ?_
          refine gX9_18_2 C hR ob46 rf46_2 (dk DX9_number 25 rfl) ?_
          refine lv_aload_n hx hb (dk DX9_number 26 rfl) rfl (lv_at hl 0 rfl) ?_
          refine gX9_28_2 C hR ob46 (dk DX9_number 27 rfl) ?_
          obtain ⟨hq24, hF⟩ := ckB_ex hF
          refine r_iald C hR ob49 hq24 (dk DX9_number 28 rfl) ?_
          refine lv_topi (fun xq25 exq25 => ?_)
          have hF := lt_at exq25 hF
          refine lv_iconst (v := (3 : Int32)) hx hb (dk DX9_number 29 rfl) (by decide) ?_
          refine lv_iadd hx hb (dk DX9_number 30 rfl) ?_
          refine lv_icmp_ge (tgt := 78) hx hb (dk DX9_number 31 rfl) (by decide) (fun c54 => ?_) (fun c54 => ?_)
          · have hF := if_t c54 hF
            exact J78 xq18 mq17 _ _ ls (lv_sub hl [0, 1, 2, 3] rfl) hR hF
          · have hF := if_f c54 hF
            refine lv_iload_n hx hb (dk DX9_number 32 rfl) rfl (lv_at hl 3 rfl) ?_
            refine lv_bipush (v := (10 : Int32)) hx hb (dk DX9_number 33 rfl) (by decide) ?_
            refine lv_imul hx hb (dk DX9_number 34 rfl) ?_
            refine lv_aload_n hx hb (dk DX9_number 35 rfl) rfl (lv_at hl 0 rfl) ?_
            refine lv_iload hx hb (dk DX9_number 36 rfl) (lv_at hl 4 rfl) ?_
            obtain ⟨xq28, mq26, hzq27, hF⟩ := bnd_ex hF
            refine r_callVi (As := [.int xq19]) (rest := [.int (xq18 * (10 : Int32))]) C hR (C_Tx_byteAtG l hl0 G xq19 mq17 _ _ hzq27) (by decide) (by decide) ob46 rfl wX9_69_2 rfl rfl (Nat.le_of_ble_eq_true rfl) hl.1 ⟨Nat.zero_le _, Nat.zero_le _⟩ (dk DX9_number 37 rfl) (fun H locs hR => ?_)
            refine lv_iadd hx hb (dk DX9_number 38 rfl) ?_
            refine lv_bipush (v := (48 : Int32)) hx hb (dk DX9_number 39 rfl) (by decide) ?_
            refine lv_isub hx hb (dk DX9_number 40 rfl) ?_
            refine lv_topi (fun xq29 exq29 => ?_)
            have hF := lt_at exq29 hF
            refine lv_istore_n (lv' := [(3, .int xq29), (0, .ref (G.2.1 + 46)), (1, .int a1), (2, .int a2), (4, .int xq19)]) hx hb (dk DX9_number 41 rfl) rfl hl (by decide) rfl (fun ls hl => ?_)
            obtain ⟨xq30, exq30, hF⟩ := lt_ex hF
            refine lv_iinc (v := xq30) (lv' := [(4, .int xq30), (3, .int xq29), (0, .ref (G.2.1 + 46)), (1, .int a1), (2, .int a2)]) hx hb (dk DX9_number 42 rfl) hl (k := 4) rfl (by rw [exq30]; rfl) (by decide) rfl (fun ls hl => ?_)
            refine lv_goto (tgt := 27) hx hb (dk DX9_number 43 rfl) (by decide) ?_
            exact ihq21 xq29 xq30 mq26 _ _ ls (lv_sub hl [2, 3, 4, 1, 0] rfl) hR hF
    exact L27 1000000 (0 : Int32) xq5 mq1 _ _ ls (lv_sub hl [2, 3, 4, 1, 0] rfl) hR hF
  · have hF := if_f c5 hF
    refine lv_aload_n hx hb (dk DX9_number 4 rfl) rfl (lv_at hl 0 rfl) ?_
    obtain ⟨uq33, mq31, hzq32, hF⟩ := bnd_ex hF
    refine r_callVv (As := []) (rest := []) C hR (C_Tx_setWrongG l hl0 G mq1 _ _ hzq32) (by decide) (by decide) ob46 rfl wX9_55_2 rfl rfl (Nat.le_of_ble_eq_true rfl) hl.1 ⟨Nat.zero_le _, Nat.zero_le _⟩ (dk DX9_number 5 rfl) (fun H locs hR => ?_)
    refine lv_iload_n hx hb (dk DX9_number 6 rfl) rfl (lv_at hl 1 rfl) ?_
    cases hF
    exact r_iret C hrt hR (dk DX9_number 7 rfl)
