def rMatch (o : Nat) (rl : RL_) : RL_ := ((o, 10, o + 1) :: rl)
def wMatch (o : Nat) (wl : WL_) : WL_ := ((o, 9, .inl (0 : Int32)) :: ((o, 8, .inl (0 : Int32)) :: ((o, 7, .inl (1 : Int32)) :: ((o, 6, .inr (.inr (false : Bool))) :: ((o, 5, .inr (.inr (false : Bool))) :: ((o, 4, .inl (-1 : Int32)) :: ((o, 3, .inl (0 : Int32)) :: ((o, 2, .inl (0 : Int32)) :: ((o, 1, .inl (0 : Int32)) :: ((o, 0, .inl (-1 : Int32)) :: wl))))))))))
theorem rb_Match {o : Nat} {rl : RL_} {n : Nat} (hn : o + 2 ≤ n) (hB : RBq rl n) : RBq (rMatch o rl) n := by
  unfold rMatch
  repeat' (first | exact hB.up (by omega) | refine RBq.cons (by omega) ?_)
theorem wb_Match {o : Nat} {wl : WL_} {n : Nat} (hn : o + 2 ≤ n) (hB : WB_ wl n) : WB_ (wMatch o wl) n := by
  unfold wMatch
  repeat' (first | exact hB.up (by omega) | refine WB_.cons (by omega) ?_)
set_option maxRecDepth 40000 in
set_option maxHeartbeats 4000000 in
theorem K_Match (l : Launch) (hl0 : l.stackTraces = false) (G : GG) (o : Nat) (h0 : kd o = (0, 5)) (h1 : kd (o + 1) = (1, 63)) (rl : RL_) (wl : WL_) (hB : RBq rl (o + 1)) (hW : WB_ wl (o + 1)) : Kc l G yX5_init cX5_init 1 1 1 63 o (o + 1) rl wl (rMatch o rl) (wMatch o wl) := by
  refine Kc_of hl0 (by decide) (by decide) rfl ?_
  intro p e s mid args below meth c ls C hnm hsz hG hAO hrt hl hR
  have hx := C.1.1
  have hb := C.1.2.1
  refine lv_aload_n hx hb (dk DX5_init 0 rfl) rfl (lv_at hl 0 rfl) ?_
  refine k_obj C (gd q321 rfl) (gd q166 rfl) (gd q167 rfl) (by decide) hl.1 (dk DX5_init 1 rfl) ?_
  refine lv_aload_n hx hb (dk DX5_init 2 rfl) rfl (lv_at hl 0 rfl) ?_
  refine lv_iconst (v := (-1 : Int32)) hx hb (dk DX5_init 3 rfl) (by decide) ?_
  refine pX5_9 (o := o) (x := (-1 : Int32)) C hR ⟨by omega, h0⟩ (dk DX5_init 4 rfl) (fun H locs hR => ?_)
  have hR := k_I hR
  refine lv_aload_n hx hb (dk DX5_init 5 rfl) rfl (lv_at hl 0 rfl) ?_
  refine lv_iconst (v := (0 : Int32)) hx hb (dk DX5_init 6 rfl) (by decide) ?_
  refine pX5_15 (o := o) (x := (0 : Int32)) C hR ⟨by omega, h0⟩ (dk DX5_init 7 rfl) (fun H locs hR => ?_)
  have hR := k_I hR
  refine lv_aload_n hx hb (dk DX5_init 8 rfl) rfl (lv_at hl 0 rfl) ?_
  refine lv_iconst (v := (0 : Int32)) hx hb (dk DX5_init 9 rfl) (by decide) ?_
  refine pX5_18 (o := o) (x := (0 : Int32)) C hR ⟨by omega, h0⟩ (dk DX5_init 10 rfl) (fun H locs hR => ?_)
  have hR := k_I hR
  refine lv_aload_n hx hb (dk DX5_init 11 rfl) rfl (lv_at hl 0 rfl) ?_
  refine lv_iconst (v := (0 : Int32)) hx hb (dk DX5_init 12 rfl) (by decide) ?_
  refine pX5_21 (o := o) (x := (0 : Int32)) C hR ⟨by omega, h0⟩ (dk DX5_init 13 rfl) (fun H locs hR => ?_)
  have hR := k_I hR
  refine lv_aload_n hx hb (dk DX5_init 14 rfl) rfl (lv_at hl 0 rfl) ?_
  refine lv_iconst (v := (-1 : Int32)) hx hb (dk DX5_init 15 rfl) (by decide) ?_
  refine pX5_24 (o := o) (x := (-1 : Int32)) C hR ⟨by omega, h0⟩ (dk DX5_init 16 rfl) (fun H locs hR => ?_)
  have hR := k_I hR
  refine lv_aload_n hx hb (dk DX5_init 17 rfl) rfl (lv_at hl 0 rfl) ?_
  refine lv_iconst (v := (0 : Int32)) hx hb (dk DX5_init 18 rfl) (by decide) ?_
  refine pX5_27 (o := o) (x := (false : Bool)) C hR ⟨by omega, h0⟩ (dk DX5_init 19 rfl) (fun H locs hR => ?_)
  have hR := k_Z hR
  refine lv_aload_n hx hb (dk DX5_init 20 rfl) rfl (lv_at hl 0 rfl) ?_
  refine lv_iconst (v := (0 : Int32)) hx hb (dk DX5_init 21 rfl) (by decide) ?_
  refine pX5_31 (o := o) (x := (false : Bool)) C hR ⟨by omega, h0⟩ (dk DX5_init 22 rfl) (fun H locs hR => ?_)
  have hR := k_Z hR
  refine lv_aload_n hx hb (dk DX5_init 23 rfl) rfl (lv_at hl 0 rfl) ?_
  refine lv_iconst (v := (1 : Int32)) hx hb (dk DX5_init 24 rfl) (by decide) ?_
  refine pX5_34 (o := o) (x := (1 : Int32)) C hR ⟨by omega, h0⟩ (dk DX5_init 25 rfl) (fun H locs hR => ?_)
  have hR := k_I hR
  refine lv_aload_n hx hb (dk DX5_init 26 rfl) rfl (lv_at hl 0 rfl) ?_
  refine lv_iconst (v := (0 : Int32)) hx hb (dk DX5_init 27 rfl) (by decide) ?_
  refine pX5_37 (o := o) (x := (0 : Int32)) C hR ⟨by omega, h0⟩ (dk DX5_init 28 rfl) (fun H locs hR => ?_)
  have hR := k_I hR
  refine lv_aload_n hx hb (dk DX5_init 29 rfl) rfl (lv_at hl 0 rfl) ?_
  refine lv_iconst (v := (0 : Int32)) hx hb (dk DX5_init 30 rfl) (by decide) ?_
  refine pX5_40 (o := o) (x := (0 : Int32)) C hR ⟨by omega, h0⟩ (dk DX5_init 31 rfl) (fun H locs hR => ?_)
  have hR := k_I hR
  refine lv_aload_n hx hb (dk DX5_init 32 rfl) rfl (lv_at hl 0 rfl) ?_
  refine lv_bipush (v := (63 : Int32)) hx hb (dk DX5_init 33 rfl) (by decide) ?_
  refine r_newi (N := 63) C hR (by omega) hG (by repeat' (first | exact hW.up (by omega) | refine WB_.cons (by omega) ?_)) h1 (gd q206 rfl) ⟨by decide, by decide⟩ (by decide) (by decide) (by decide) (dk DX5_init 34 rfl) (fun H hR => ?_)
  refine k_cells (k := 1) (n' := 63) rfl rfl ?_
  have hR := k_at (n' := o + 2) hR rfl
  refine r_putR (o := o) (k := o + 1) (ci := 5) (j := 10) (ty := tyX5 10) C hnm hR ⟨by omega, h0⟩ rfl iX5 tyX5 tyX5_ok nmX5 (by decide) (by decide) rfl (gd q340 rfl) (fun _ h => h) rfl rfl (tyX5_ok 10 (by decide)) rfl rfl (dk DX5_init 35 rfl) (fun H locs hR => ?_)
  exact k_ret C hrt hR (dk DX5_init 36 rfl)
def rLaw (o : Nat) (rl : RL_) : RL_ := ((o, 4, o + 3) :: ((o, 3, o + 2) :: ((o, 2, o + 1) :: rl)))
def wLaw (o : Nat) (wl : WL_) : WL_ := ((o, 1, .inl (0 : Int32)) :: ((o, 0, .inl (-1 : Int32)) :: wl))
theorem rb_Law {o : Nat} {rl : RL_} {n : Nat} (hn : o + 4 ≤ n) (hB : RBq rl n) : RBq (rLaw o rl) n := by
  unfold rLaw
  repeat' (first | exact hB.up (by omega) | refine RBq.cons (by omega) ?_ | refine rb_Match (by omega) ?_)
theorem wb_Law {o : Nat} {wl : WL_} {n : Nat} (hn : o + 4 ≤ n) (hB : WB_ wl n) : WB_ (wLaw o wl) n := by
  unfold wLaw
  repeat' (first | exact hB.up (by omega) | refine WB_.cons (by omega) ?_ | refine wb_Match (by omega) ?_)
set_option maxRecDepth 40000 in
set_option maxHeartbeats 4000000 in
theorem K_Law (l : Launch) (hl0 : l.stackTraces = false) (G : GG) (o : Nat) (h0 : kd o = (0, 3)) (h1 : kd (o + 1) = (1, 400)) (h2 : kd (o + 2) = (1, 8)) (h3 : kd (o + 3) = (1, 64)) (rl : RL_) (wl : WL_) (hB : RBq rl (o + 1)) (hW : WB_ wl (o + 1)) : Kc l G yX3_init cX3_init 1 1 3 472 o (o + 1) rl wl (rLaw o rl) (wLaw o wl) := by
  refine Kc_of hl0 (by decide) (by decide) rfl ?_
  intro p e s mid args below meth c ls C hnm hsz hG hAO hrt hl hR
  have hx := C.1.1
  have hb := C.1.2.1
  refine lv_aload_n hx hb (dk DX3_init 0 rfl) rfl (lv_at hl 0 rfl) ?_
  refine k_obj C (gd q185 rfl) (gd q166 rfl) (gd q167 rfl) (by decide) hl.1 (dk DX3_init 1 rfl) ?_
  refine lv_aload_n hx hb (dk DX3_init 2 rfl) rfl (lv_at hl 0 rfl) ?_
  refine lv_iconst (v := (-1 : Int32)) hx hb (dk DX3_init 3 rfl) (by decide) ?_
  refine pX3_9 (o := o) (x := (-1 : Int32)) C hR ⟨by omega, h0⟩ (dk DX3_init 4 rfl) (fun H locs hR => ?_)
  have hR := k_I hR
  refine lv_aload_n hx hb (dk DX3_init 5 rfl) rfl (lv_at hl 0 rfl) ?_
  refine lv_iconst (v := (0 : Int32)) hx hb (dk DX3_init 6 rfl) (by decide) ?_
  refine pX3_15 (o := o) (x := (0 : Int32)) C hR ⟨by omega, h0⟩ (dk DX3_init 7 rfl) (fun H locs hR => ?_)
  have hR := k_I hR
  refine lv_aload_n hx hb (dk DX3_init 8 rfl) rfl (lv_at hl 0 rfl) ?_
  refine lv_sipush (v := (400 : Int32)) hx hb (dk DX3_init 9 rfl) (by decide) ?_
  refine r_newi (N := 400) C hR (by omega) hG (by repeat' (first | exact hW.up (by omega) | refine WB_.cons (by omega) ?_ | refine wb_Match (by omega) ?_)) h1 (gd q206 rfl) ⟨by decide, by decide⟩ (by decide) (by decide) (by decide) (dk DX3_init 10 rfl) (fun H hR => ?_)
  refine k_cells (k := 1) (n' := 400) rfl rfl ?_
  have hR := k_at (n' := o + 2) hR rfl
  refine r_putR (o := o) (k := o + 1) (ci := 3) (j := 2) (ty := tyX3 2) C hnm hR ⟨by omega, h0⟩ rfl iX3 tyX3 tyX3_ok nmX3 (by decide) (by decide) rfl (gd q192 rfl) (fun _ h => h) rfl rfl (tyX3_ok 2 (by decide)) rfl rfl (dk DX3_init 11 rfl) (fun H locs hR => ?_)
  refine lv_aload_n hx hb (dk DX3_init 12 rfl) rfl (lv_at hl 0 rfl) ?_
  refine lv_bipush (v := (8 : Int32)) hx hb (dk DX3_init 13 rfl) (by decide) ?_
  refine r_newi (N := 8) C hR (by omega) hG (by repeat' (first | exact hW.up (by omega) | refine WB_.cons (by omega) ?_ | refine wb_Match (by omega) ?_)) h2 (gd q206 rfl) ⟨by decide, by decide⟩ (by decide) (by decide) (by decide) (dk DX3_init 14 rfl) (fun H hR => ?_)
  refine k_cells (k := 2) (n' := 408) rfl rfl ?_
  have hR := k_at (n' := o + 3) hR rfl
  refine r_putR (o := o) (k := o + 2) (ci := 3) (j := 3) (ty := tyX3 3) C hnm hR ⟨by omega, h0⟩ rfl iX3 tyX3 tyX3_ok nmX3 (by decide) (by decide) rfl (gd q193 rfl) (fun _ h => h) rfl rfl (tyX3_ok 3 (by decide)) rfl rfl (dk DX3_init 15 rfl) (fun H locs hR => ?_)
  refine lv_aload_n hx hb (dk DX3_init 16 rfl) rfl (lv_at hl 0 rfl) ?_
  refine lv_bipush (v := (64 : Int32)) hx hb (dk DX3_init 17 rfl) (by decide) ?_
  refine r_newi (N := 64) C hR (by omega) hG (by repeat' (first | exact hW.up (by omega) | refine WB_.cons (by omega) ?_ | refine wb_Match (by omega) ?_)) h3 (gd q206 rfl) ⟨by decide, by decide⟩ (by decide) (by decide) (by decide) (dk DX3_init 18 rfl) (fun H hR => ?_)
  refine k_cells (k := 3) (n' := 472) rfl rfl ?_
  have hR := k_at (n' := o + 4) hR rfl
  refine r_putR (o := o) (k := o + 3) (ci := 3) (j := 4) (ty := tyX3 4) C hnm hR ⟨by omega, h0⟩ rfl iX3 tyX3 tyX3_ok nmX3 (by decide) (by decide) rfl (gd q194 rfl) (fun _ h => h) rfl rfl (tyX3_ok 4 (by decide)) rfl rfl (dk DX3_init 19 rfl) (fun H locs hR => ?_)
  exact k_ret C hrt hR (dk DX3_init 20 rfl)
def rBook (o : Nat) (rl : RL_) : RL_ := ((o, 1, o + 1) :: rl)
def wBook (o : Nat) (wl : WL_) : WL_ := ((o, 0, .inl (0 : Int32)) :: wl)
theorem rb_Book {o : Nat} {rl : RL_} {n : Nat} (hn : o + 2 ≤ n) (hB : RBq rl n) : RBq (rBook o rl) n := by
  unfold rBook
  repeat' (first | exact hB.up (by omega) | refine RBq.cons (by omega) ?_ | refine rb_Match (by omega) ?_ | refine rb_Law (by omega) ?_)
theorem wb_Book {o : Nat} {wl : WL_} {n : Nat} (hn : o + 2 ≤ n) (hB : WB_ wl n) : WB_ (wBook o wl) n := by
  unfold wBook
  repeat' (first | exact hB.up (by omega) | refine WB_.cons (by omega) ?_ | refine wb_Match (by omega) ?_ | refine wb_Law (by omega) ?_)
set_option maxRecDepth 40000 in
set_option maxHeartbeats 4000000 in
theorem K_Book (l : Launch) (hl0 : l.stackTraces = false) (G : GG) (o : Nat) (h0 : kd o = (0, 0)) (h1 : kd (o + 1) = (1, 180)) (rl : RL_) (wl : WL_) (hB : RBq rl (o + 1)) (hW : WB_ wl (o + 1)) : Kc l G yX0_init cX0_init 1 1 1 180 o (o + 1) rl wl (rBook o rl) (wBook o wl) := by
  refine Kc_of hl0 (by decide) (by decide) rfl ?_
  intro p e s mid args below meth c ls C hnm hsz hG hAO hrt hl hR
  have hx := C.1.1
  have hb := C.1.2.1
  refine lv_aload_n hx hb (dk DX0_init 0 rfl) rfl (lv_at hl 0 rfl) ?_
  refine k_obj C (gd q212 rfl) (gd q166 rfl) (gd q167 rfl) (by decide) hl.1 (dk DX0_init 1 rfl) ?_
  refine lv_aload_n hx hb (dk DX0_init 2 rfl) rfl (lv_at hl 0 rfl) ?_
  refine lv_iconst (v := (0 : Int32)) hx hb (dk DX0_init 3 rfl) (by decide) ?_
  refine pX0_9 (o := o) (x := (0 : Int32)) C hR ⟨by omega, h0⟩ (dk DX0_init 4 rfl) (fun H locs hR => ?_)
  have hR := k_I hR
  refine lv_aload_n hx hb (dk DX0_init 5 rfl) rfl (lv_at hl 0 rfl) ?_
  refine lv_sipush (v := (180 : Int32)) hx hb (dk DX0_init 6 rfl) (by decide) ?_
  refine r_newi (N := 180) C hR (by omega) hG (by repeat' (first | exact hW.up (by omega) | refine WB_.cons (by omega) ?_ | refine wb_Match (by omega) ?_ | refine wb_Law (by omega) ?_)) h1 (gd q206 rfl) ⟨by decide, by decide⟩ (by decide) (by decide) (by decide) (dk DX0_init 7 rfl) (fun H hR => ?_)
  refine k_cells (k := 1) (n' := 180) rfl rfl ?_
  have hR := k_at (n' := o + 2) hR rfl
  refine r_putR (o := o) (k := o + 1) (ci := 0) (j := 1) (ty := tyX0 1) C hnm hR ⟨by omega, h0⟩ rfl iX0 tyX0 tyX0_ok nmX0 (by decide) (by decide) rfl (gd q215 rfl) (fun _ h => h) rfl rfl (tyX0_ok 1 (by decide)) rfl rfl (dk DX0_init 8 rfl) (fun H locs hR => ?_)
  exact k_ret C hrt hR (dk DX0_init 9 rfl)
def rGround (o : Nat) (rl : RL_) : RL_ := ((o, 13, o + 11) :: ((o, 12, o + 9) :: (rBook (o + 9) ((o, 11, o + 5) :: (rLaw (o + 5) ((o, 10, o + 4) :: ((o, 9, o + 3) :: ((o, 8, o + 2) :: ((o, 7, o + 1) :: rl)))))))))
def wGround (o : Nat) (wl : WL_) : WL_ := ((o + 11, 71, .inl (-1 : Int32)) :: ((o + 11, 70, .inl (-1 : Int32)) :: ((o + 11, 69, .inl (-1 : Int32)) :: ((o + 11, 68, .inl (-1 : Int32)) :: ((o + 11, 67, .inl (-1 : Int32)) :: ((o + 11, 66, .inl (-1 : Int32)) :: ((o + 11, 65, .inl (-1 : Int32)) :: ((o + 11, 64, .inl (-1 : Int32)) :: ((o + 11, 63, .inl (-1 : Int32)) :: ((o + 11, 62, .inl (-1 : Int32)) :: ((o + 11, 61, .inl (-1 : Int32)) :: ((o + 11, 60, .inl (-1 : Int32)) :: ((o + 11, 59, .inl (-1 : Int32)) :: ((o + 11, 58, .inl (-1 : Int32)) :: ((o + 11, 57, .inl (-1 : Int32)) :: ((o + 11, 56, .inl (-1 : Int32)) :: ((o + 11, 55, .inl (-1 : Int32)) :: ((o + 11, 54, .inl (-1 : Int32)) :: ((o + 11, 53, .inl (-1 : Int32)) :: ((o + 11, 52, .inl (-1 : Int32)) :: ((o + 11, 51, .inl (-1 : Int32)) :: ((o + 11, 50, .inl (-1 : Int32)) :: ((o + 11, 49, .inl (-1 : Int32)) :: ((o + 11, 48, .inl (-1 : Int32)) :: ((o + 11, 47, .inl (-1 : Int32)) :: ((o + 11, 46, .inl (-1 : Int32)) :: ((o + 11, 45, .inl (-1 : Int32)) :: ((o + 11, 44, .inl (-1 : Int32)) :: ((o + 11, 43, .inl (-1 : Int32)) :: ((o + 11, 42, .inl (-1 : Int32)) :: ((o + 11, 41, .inl (-1 : Int32)) :: ((o + 11, 40, .inl (-1 : Int32)) :: ((o + 11, 39, .inl (-1 : Int32)) :: ((o + 11, 38, .inl (-1 : Int32)) :: ((o + 11, 37, .inl (-1 : Int32)) :: ((o + 11, 36, .inl (-1 : Int32)) :: ((o + 11, 35, .inl (-1 : Int32)) :: ((o + 11, 34, .inl (-1 : Int32)) :: ((o + 11, 33, .inl (-1 : Int32)) :: ((o + 11, 32, .inl (-1 : Int32)) :: ((o + 11, 31, .inl (-1 : Int32)) :: ((o + 11, 30, .inl (-1 : Int32)) :: ((o + 11, 29, .inl (-1 : Int32)) :: ((o + 11, 28, .inl (-1 : Int32)) :: ((o + 11, 27, .inl (-1 : Int32)) :: ((o + 11, 26, .inl (-1 : Int32)) :: ((o + 11, 25, .inl (-1 : Int32)) :: ((o + 11, 24, .inl (-1 : Int32)) :: ((o + 11, 23, .inl (-1 : Int32)) :: ((o + 11, 22, .inl (-1 : Int32)) :: ((o + 11, 21, .inl (-1 : Int32)) :: ((o + 11, 20, .inl (-1 : Int32)) :: ((o + 11, 19, .inl (-1 : Int32)) :: ((o + 11, 18, .inl (-1 : Int32)) :: ((o + 11, 17, .inl (-1 : Int32)) :: ((o + 11, 16, .inl (-1 : Int32)) :: ((o + 11, 15, .inl (-1 : Int32)) :: ((o + 11, 14, .inl (-1 : Int32)) :: ((o + 11, 13, .inl (-1 : Int32)) :: ((o + 11, 12, .inl (-1 : Int32)) :: ((o + 11, 11, .inl (-1 : Int32)) :: ((o + 11, 10, .inl (-1 : Int32)) :: ((o + 11, 9, .inl (-1 : Int32)) :: ((o + 11, 8, .inl (-1 : Int32)) :: ((o + 11, 7, .inl (-1 : Int32)) :: ((o + 11, 6, .inl (-1 : Int32)) :: ((o + 11, 5, .inl (-1 : Int32)) :: ((o + 11, 4, .inl (-1 : Int32)) :: ((o + 11, 3, .inl (-1 : Int32)) :: ((o + 11, 2, .inl (-1 : Int32)) :: ((o + 11, 1, .inl (-1 : Int32)) :: ((o + 11, 0, .inl (-1 : Int32)) :: ((o + 4, 15, .inl (2 : Int32)) :: ((o + 3, 15, .inl (3 : Int32)) :: ((o + 4, 14, .inl (2 : Int32)) :: ((o + 3, 14, .inl (3 : Int32)) :: ((o + 4, 13, .inl (2 : Int32)) :: ((o + 3, 13, .inl (3 : Int32)) :: ((o + 4, 12, .inl (2 : Int32)) :: ((o + 3, 12, .inl (3 : Int32)) :: ((o + 4, 11, .inl (2 : Int32)) :: ((o + 3, 11, .inl (3 : Int32)) :: ((o + 4, 10, .inl (2 : Int32)) :: ((o + 3, 10, .inl (3 : Int32)) :: ((o + 4, 9, .inl (2 : Int32)) :: ((o + 3, 9, .inl (3 : Int32)) :: ((o + 4, 8, .inl (2 : Int32)) :: ((o + 3, 8, .inl (3 : Int32)) :: ((o + 4, 7, .inl (2 : Int32)) :: ((o + 3, 7, .inl (3 : Int32)) :: ((o + 4, 6, .inl (2 : Int32)) :: ((o + 3, 6, .inl (3 : Int32)) :: ((o + 4, 5, .inl (2 : Int32)) :: ((o + 3, 5, .inl (3 : Int32)) :: ((o + 4, 4, .inl (2 : Int32)) :: ((o + 3, 4, .inl (3 : Int32)) :: ((o + 4, 3, .inl (2 : Int32)) :: ((o + 3, 3, .inl (3 : Int32)) :: ((o + 4, 2, .inl (2 : Int32)) :: ((o + 3, 2, .inl (3 : Int32)) :: ((o + 4, 1, .inl (2 : Int32)) :: ((o + 3, 1, .inl (3 : Int32)) :: ((o + 4, 0, .inl (2 : Int32)) :: ((o + 3, 0, .inl (3 : Int32)) :: ((o + 2, 1, .inl (5 : Int32)) :: ((o + 1, 1, .inl (5 : Int32)) :: ((o + 2, 0, .inl (5 : Int32)) :: ((o + 1, 0, .inl (5 : Int32)) :: (wBook (o + 9) (wLaw (o + 5) ((o, 6, .inl (0 : Int32)) :: ((o, 5, .inl (40 : Int32)) :: ((o, 4, .inl (15 : Int32)) :: ((o, 3, .inl (0 : Int32)) :: ((o, 2, .inl (0 : Int32)) :: ((o, 1, .inl (0 : Int32)) :: ((o, 0, .inl (6 : Int32)) :: wl)))))))))))))))))))))))))))))))))))))))))))))))))))))))))))))))))))))))))))))))))))))))))))))))))))))))))))))))))))))
theorem rb_Ground {o : Nat} {rl : RL_} {n : Nat} (hn : o + 12 ≤ n) (hB : RBq rl n) : RBq (rGround o rl) n := by
  unfold rGround
  repeat' (first | exact hB.up (by omega) | refine RBq.cons (by omega) ?_ | refine rb_Match (by omega) ?_ | refine rb_Law (by omega) ?_ | refine rb_Book (by omega) ?_)
theorem wb_Ground {o : Nat} {wl : WL_} {n : Nat} (hn : o + 12 ≤ n) (hB : WB_ wl n) : WB_ (wGround o wl) n := by
  unfold wGround
  repeat' (first | exact hB.up (by omega) | refine WB_.cons (by omega) ?_ | refine wb_Match (by omega) ?_ | refine wb_Law (by omega) ?_ | refine wb_Book (by omega) ?_)
set_option maxRecDepth 40000 in
set_option maxHeartbeats 4000000 in
theorem K_Ground (l : Launch) (hl0 : l.stackTraces = false) (G : GG) (o : Nat) (h0 : kd o = (0, 1)) (h1 : kd (o + 1) = (1, 2)) (h2 : kd (o + 2) = (1, 2)) (h3 : kd (o + 3) = (1, 16)) (h4 : kd (o + 4) = (1, 16)) (h5 : kd (o + 5) = (0, 3)) (h6 : kd (o + 6) = (1, 400)) (h7 : kd (o + 7) = (1, 8)) (h8 : kd (o + 8) = (1, 64)) (h9 : kd (o + 9) = (0, 0)) (h10 : kd (o + 10) = (1, 180)) (h11 : kd (o + 11) = (1, 72)) (rl : RL_) (wl : WL_) (hB : RBq rl (o + 1)) (hW : WB_ wl (o + 1)) : Kc l G yX1_init cX1_init 2 2 11 767 o (o + 1) rl wl (rGround o rl) (wGround o wl) := by
  refine Kc_of hl0 (by decide) (by decide) rfl ?_
  intro p e s mid args below meth c ls C hnm hsz hG hAO hrt hl hR
  have hx := C.1.1
  have hb := C.1.2.1
  refine lv_aload_n hx hb (dk DX1_init 0 rfl) rfl (lv_at hl 0 rfl) ?_
  refine k_obj C (gd q179 rfl) (gd q166 rfl) (gd q167 rfl) (by decide) hl.1 (dk DX1_init 1 rfl) ?_
  refine lv_aload_n hx hb (dk DX1_init 2 rfl) rfl (lv_at hl 0 rfl) ?_
  refine lv_bipush (v := (6 : Int32)) hx hb (dk DX1_init 3 rfl) (by decide) ?_
  refine pX1_9 (o := o) (x := (6 : Int32)) C hR ⟨by omega, h0⟩ (dk DX1_init 4 rfl) (fun H locs hR => ?_)
  have hR := k_I hR
  refine lv_aload_n hx hb (dk DX1_init 5 rfl) rfl (lv_at hl 0 rfl) ?_
  refine lv_iconst (v := (0 : Int32)) hx hb (dk DX1_init 6 rfl) (by decide) ?_
  refine pX1_15 (o := o) (x := (0 : Int32)) C hR ⟨by omega, h0⟩ (dk DX1_init 7 rfl) (fun H locs hR => ?_)
  have hR := k_I hR
  refine lv_aload_n hx hb (dk DX1_init 8 rfl) rfl (lv_at hl 0 rfl) ?_
  refine lv_iconst (v := (0 : Int32)) hx hb (dk DX1_init 9 rfl) (by decide) ?_
  refine pX1_18 (o := o) (x := (0 : Int32)) C hR ⟨by omega, h0⟩ (dk DX1_init 10 rfl) (fun H locs hR => ?_)
  have hR := k_I hR
  refine lv_aload_n hx hb (dk DX1_init 11 rfl) rfl (lv_at hl 0 rfl) ?_
  refine lv_iconst (v := (0 : Int32)) hx hb (dk DX1_init 12 rfl) (by decide) ?_
  refine pX1_21 (o := o) (x := (0 : Int32)) C hR ⟨by omega, h0⟩ (dk DX1_init 13 rfl) (fun H locs hR => ?_)
  have hR := k_I hR
  refine lv_aload_n hx hb (dk DX1_init 14 rfl) rfl (lv_at hl 0 rfl) ?_
  refine lv_bipush (v := (15 : Int32)) hx hb (dk DX1_init 15 rfl) (by decide) ?_
  refine pX1_24 (o := o) (x := (15 : Int32)) C hR ⟨by omega, h0⟩ (dk DX1_init 16 rfl) (fun H locs hR => ?_)
  have hR := k_I hR
  refine lv_aload_n hx hb (dk DX1_init 17 rfl) rfl (lv_at hl 0 rfl) ?_
  refine lv_bipush (v := (40 : Int32)) hx hb (dk DX1_init 18 rfl) (by decide) ?_
  refine pX1_27 (o := o) (x := (40 : Int32)) C hR ⟨by omega, h0⟩ (dk DX1_init 19 rfl) (fun H locs hR => ?_)
  have hR := k_I hR
  refine lv_aload_n hx hb (dk DX1_init 20 rfl) rfl (lv_at hl 0 rfl) ?_
  refine lv_iconst (v := (0 : Int32)) hx hb (dk DX1_init 21 rfl) (by decide) ?_
  refine pX1_30 (o := o) (x := (0 : Int32)) C hR ⟨by omega, h0⟩ (dk DX1_init 22 rfl) (fun H locs hR => ?_)
  have hR := k_I hR
  refine lv_aload_n hx hb (dk DX1_init 23 rfl) rfl (lv_at hl 0 rfl) ?_
  refine lv_iconst (v := (2 : Int32)) hx hb (dk DX1_init 24 rfl) (by decide) ?_
  refine r_newi (N := 2) C hR (by omega) hG (by repeat' (first | exact hW.up (by omega) | refine WB_.cons (by omega) ?_ | refine wb_Match (by omega) ?_ | refine wb_Law (by omega) ?_ | refine wb_Book (by omega) ?_)) h1 (gd q206 rfl) ⟨by decide, by decide⟩ (by decide) (by decide) (by decide) (dk DX1_init 25 rfl) (fun H hR => ?_)
  refine k_cells (k := 1) (n' := 2) rfl rfl ?_
  have hR := k_at (n' := o + 2) hR rfl
  refine r_putR (o := o) (k := o + 1) (ci := 1) (j := 7) (ty := tyX1 7) C hnm hR ⟨by omega, h0⟩ rfl iX1 tyX1 tyX1_ok nmX1 (by decide) (by decide) rfl (gd q245 rfl) (fun _ h => h) rfl rfl (tyX1_ok 7 (by decide)) rfl rfl (dk DX1_init 26 rfl) (fun H locs hR => ?_)
  refine lv_aload_n hx hb (dk DX1_init 27 rfl) rfl (lv_at hl 0 rfl) ?_
  refine lv_iconst (v := (2 : Int32)) hx hb (dk DX1_init 28 rfl) (by decide) ?_
  refine r_newi (N := 2) C hR (by omega) hG (by repeat' (first | exact hW.up (by omega) | refine WB_.cons (by omega) ?_ | refine wb_Match (by omega) ?_ | refine wb_Law (by omega) ?_ | refine wb_Book (by omega) ?_)) h2 (gd q206 rfl) ⟨by decide, by decide⟩ (by decide) (by decide) (by decide) (dk DX1_init 29 rfl) (fun H hR => ?_)
  refine k_cells (k := 2) (n' := 4) rfl rfl ?_
  have hR := k_at (n' := o + 3) hR rfl
  refine r_putR (o := o) (k := o + 2) (ci := 1) (j := 8) (ty := tyX1 8) C hnm hR ⟨by omega, h0⟩ rfl iX1 tyX1 tyX1_ok nmX1 (by decide) (by decide) rfl (gd q246 rfl) (fun _ h => h) rfl rfl (tyX1_ok 8 (by decide)) rfl rfl (dk DX1_init 30 rfl) (fun H locs hR => ?_)
  refine lv_aload_n hx hb (dk DX1_init 31 rfl) rfl (lv_at hl 0 rfl) ?_
  refine lv_bipush (v := (16 : Int32)) hx hb (dk DX1_init 32 rfl) (by decide) ?_
  refine r_newi (N := 16) C hR (by omega) hG (by repeat' (first | exact hW.up (by omega) | refine WB_.cons (by omega) ?_ | refine wb_Match (by omega) ?_ | refine wb_Law (by omega) ?_ | refine wb_Book (by omega) ?_)) h3 (gd q206 rfl) ⟨by decide, by decide⟩ (by decide) (by decide) (by decide) (dk DX1_init 33 rfl) (fun H hR => ?_)
  refine k_cells (k := 3) (n' := 20) rfl rfl ?_
  have hR := k_at (n' := o + 4) hR rfl
  refine r_putR (o := o) (k := o + 3) (ci := 1) (j := 9) (ty := tyX1 9) C hnm hR ⟨by omega, h0⟩ rfl iX1 tyX1 tyX1_ok nmX1 (by decide) (by decide) rfl (gd q247 rfl) (fun _ h => h) rfl rfl (tyX1_ok 9 (by decide)) rfl rfl (dk DX1_init 34 rfl) (fun H locs hR => ?_)
  refine lv_aload_n hx hb (dk DX1_init 35 rfl) rfl (lv_at hl 0 rfl) ?_
  refine lv_bipush (v := (16 : Int32)) hx hb (dk DX1_init 36 rfl) (by decide) ?_
  refine r_newi (N := 16) C hR (by omega) hG (by repeat' (first | exact hW.up (by omega) | refine WB_.cons (by omega) ?_ | refine wb_Match (by omega) ?_ | refine wb_Law (by omega) ?_ | refine wb_Book (by omega) ?_)) h4 (gd q206 rfl) ⟨by decide, by decide⟩ (by decide) (by decide) (by decide) (dk DX1_init 37 rfl) (fun H hR => ?_)
  refine k_cells (k := 4) (n' := 36) rfl rfl ?_
  have hR := k_at (n' := o + 5) hR rfl
  refine r_putR (o := o) (k := o + 4) (ci := 1) (j := 10) (ty := tyX1 10) C hnm hR ⟨by omega, h0⟩ rfl iX1 tyX1 tyX1_ok nmX1 (by decide) (by decide) rfl (gd q248 rfl) (fun _ h => h) rfl rfl (tyX1_ok 10 (by decide)) rfl rfl (dk DX1_init 38 rfl) (fun H locs hR => ?_)
  refine lv_aload_n hx hb (dk DX1_init 39 rfl) rfl (lv_at hl 0 rfl) ?_
  refine r_new C hR (by omega) hG (by repeat' (first | exact hW.up (by omega) | refine WB_.cons (by omega) ?_ | refine wb_Match (by omega) ?_ | refine wb_Law (by omega) ?_ | refine wb_Book (by omega) ?_)) (by repeat' (first | exact hB.up (by omega) | refine RBq.cons (by omega) ?_ | refine rb_Match (by omega) ?_ | refine rb_Law (by omega) ?_ | refine rb_Book (by omega) ?_)) h5 rfl iX3 tyX3 tyX3_ok dvX3 (gd q180 rfl) (gd q181 rfl) (gd q137 rfl) (by decide) (by decide) (dk DX1_init 40 rfl) (fun H hR => ?_)
  refine k_cells (k := 5) (n' := 41) rfl rfl ?_
  have hR := k_at (n' := o + 6) hR rfl
  refine lv_dup hx hb (dk DX1_init 41 rfl) rfl ?_
  refine r_callKN (o := o + 5) C hAO hR (by omega) (K_Law l hl0 G (o + 5) h5 h6 h7 h8 _ _ (by repeat' (first | exact hB.up (by omega) | refine RBq.cons (by omega) ?_ | refine rb_Match (by omega) ?_ | refine rb_Law (by omega) ?_ | refine rb_Book (by omega) ?_)) (by repeat' (first | exact hW.up (by omega) | refine WB_.cons (by omega) ?_ | refine wb_Match (by omega) ?_ | refine wb_Law (by omega) ?_ | refine wb_Book (by omega) ?_))) (by omega) (by decide) (by decide) wkX1_48 (Nat.le_of_ble_eq_true rfl) hl.1 ⟨by decide, by decide⟩ (dk DX1_init 42 rfl) (fun H locs hR => ?_)
  refine k_cells (k := 8) (n' := 513) rfl rfl ?_
  have hR := k_at (n' := o + 9) hR rfl
  refine r_putR (o := o) (k := o + 5) (ci := 1) (j := 11) (ty := tyX1 11) C hnm hR ⟨by omega, h0⟩ rfl iX1 tyX1 tyX1_ok nmX1 (by decide) (by decide) rfl (gd q249 rfl) (fun _ h => h) rfl rfl (tyX1_ok 11 (by decide)) rfl rfl (dk DX1_init 43 rfl) (fun H locs hR => ?_)
  refine lv_aload_n hx hb (dk DX1_init 44 rfl) rfl (lv_at hl 0 rfl) ?_
  refine r_new C hR (by omega) hG (by repeat' (first | exact hW.up (by omega) | refine WB_.cons (by omega) ?_ | refine wb_Match (by omega) ?_ | refine wb_Law (by omega) ?_ | refine wb_Book (by omega) ?_)) (by repeat' (first | exact hB.up (by omega) | refine RBq.cons (by omega) ?_ | refine rb_Match (by omega) ?_ | refine rb_Law (by omega) ?_ | refine rb_Book (by omega) ?_)) h9 rfl iX0 tyX0 tyX0_ok dvX0 (gd q207 rfl) (gd q208 rfl) (gd q138 rfl) (by decide) (by decide) (dk DX1_init 45 rfl) (fun H hR => ?_)
  refine k_cells (k := 9) (n' := 515) rfl rfl ?_
  have hR := k_at (n' := o + 10) hR rfl
  refine lv_dup hx hb (dk DX1_init 46 rfl) rfl ?_
  refine r_callKN (o := o + 9) C hAO hR (by omega) (K_Book l hl0 G (o + 9) h9 h10 _ _ (by repeat' (first | exact hB.up (by omega) | refine RBq.cons (by omega) ?_ | refine rb_Match (by omega) ?_ | refine rb_Law (by omega) ?_ | refine rb_Book (by omega) ?_)) (by repeat' (first | exact hW.up (by omega) | refine WB_.cons (by omega) ?_ | refine wb_Match (by omega) ?_ | refine wb_Law (by omega) ?_ | refine wb_Book (by omega) ?_))) (by omega) (by decide) (by decide) wkX1_55 (Nat.le_of_ble_eq_true rfl) hl.1 ⟨by decide, by decide⟩ (dk DX1_init 47 rfl) (fun H locs hR => ?_)
  refine k_cells (k := 10) (n' := 695) rfl rfl ?_
  have hR := k_at (n' := o + 11) hR rfl
  refine r_putR (o := o) (k := o + 9) (ci := 1) (j := 12) (ty := tyX1 12) C hnm hR ⟨by omega, h0⟩ rfl iX1 tyX1 tyX1_ok nmX1 (by decide) (by decide) rfl (gd q251 rfl) (fun _ h => h) rfl rfl (tyX1_ok 12 (by decide)) rfl rfl (dk DX1_init 48 rfl) (fun H locs hR => ?_)
  refine lv_aload_n hx hb (dk DX1_init 49 rfl) rfl (lv_at hl 0 rfl) ?_
  refine lv_bipush (v := (72 : Int32)) hx hb (dk DX1_init 50 rfl) (by decide) ?_
  refine r_newi (N := 72) C hR (by omega) hG (by repeat' (first | exact hW.up (by omega) | refine WB_.cons (by omega) ?_ | refine wb_Match (by omega) ?_ | refine wb_Law (by omega) ?_ | refine wb_Book (by omega) ?_)) h11 (gd q206 rfl) ⟨by decide, by decide⟩ (by decide) (by decide) (by decide) (dk DX1_init 51 rfl) (fun H hR => ?_)
  refine k_cells (k := 11) (n' := 767) rfl rfl ?_
  have hR := k_at (n' := o + 12) hR rfl
  refine r_putR (o := o) (k := o + 11) (ci := 1) (j := 13) (ty := tyX1 13) C hnm hR ⟨by omega, h0⟩ rfl iX1 tyX1 tyX1_ok nmX1 (by decide) (by decide) rfl (gd q254 rfl) (fun _ h => h) rfl rfl (tyX1_ok 13 (by decide)) rfl rfl (dk DX1_init 52 rfl) (fun H locs hR => ?_)
  refine lv_iconst (v := (0 : Int32)) hx hb (dk DX1_init 53 rfl) (by decide) ?_
  refine lv_istore_n (lv' := [(1, .int (0 : Int32)), (0, .ref (G.2.1 + o))]) hx hb (dk DX1_init 54 rfl) rfl hl (by decide) rfl (fun ls hl => ?_)
  refine lv_iload_n hx hb (dk DX1_init 55 rfl) rfl (lv_at hl 0 rfl) ?_
  refine lv_iconst (v := (2 : Int32)) hx hb (dk DX1_init 56 rfl) (by decide) ?_
  refine lv_icmp_ge (tgt := 129) hx hb (dk DX1_init 57 rfl) (by decide) (fun h => absurd h (by decide)) (fun _ => ?_)
  refine lv_aload_n hx hb (dk DX1_init 58 rfl) rfl (lv_at hl 1 rfl) ?_
  refine gX1_33 (o := o) (k := o + 1) C hR ⟨by omega, h0⟩ (by simp [mrOf, rMatch, rLaw, rBook]) (dk DX1_init 59 rfl) ?_
  refine lv_iload_n hx hb (dk DX1_init 60 rfl) rfl (lv_at hl 0 rfl) ?_
  refine lv_iconst (v := (5 : Int32)) hx hb (dk DX1_init 61 rfl) (by decide) ?_
  refine k_iast (o := o + 1) (j := 0) C hR ⟨by omega, h1⟩ rfl (by decide) (dk DX1_init 62 rfl) (fun H locs hR => ?_)
  refine lv_aload_n hx hb (dk DX1_init 63 rfl) rfl (lv_at hl 1 rfl) ?_
  refine gX1_37 (o := o) (k := o + 2) C hR ⟨by omega, h0⟩ (by simp [mrOf, rMatch, rLaw, rBook]) (dk DX1_init 64 rfl) ?_
  refine lv_iload_n hx hb (dk DX1_init 65 rfl) rfl (lv_at hl 0 rfl) ?_
  refine lv_iconst (v := (5 : Int32)) hx hb (dk DX1_init 66 rfl) (by decide) ?_
  refine k_iast (o := o + 2) (j := 0) C hR ⟨by omega, h2⟩ rfl (by decide) (dk DX1_init 67 rfl) (fun H locs hR => ?_)
  refine lv_iinc (v := (1 : Int32)) (lv' := [(1, .int (1 : Int32)), (0, .ref (G.2.1 + o))]) hx hb (dk DX1_init 68 rfl) hl (k := 0) rfl (by decide) (by decide) rfl (fun ls hl => ?_)
  refine lv_goto (tgt := 104) hx hb (dk DX1_init 69 rfl) (by decide) ?_
  refine lv_iload_n hx hb (dk DX1_init 55 rfl) rfl (lv_at hl 0 rfl) ?_
  refine lv_iconst (v := (2 : Int32)) hx hb (dk DX1_init 56 rfl) (by decide) ?_
  refine lv_icmp_ge (tgt := 129) hx hb (dk DX1_init 57 rfl) (by decide) (fun h => absurd h (by decide)) (fun _ => ?_)
  refine lv_aload_n hx hb (dk DX1_init 58 rfl) rfl (lv_at hl 1 rfl) ?_
  refine gX1_33 (o := o) (k := o + 1) C hR ⟨by omega, h0⟩ (by simp [mrOf, rMatch, rLaw, rBook]) (dk DX1_init 59 rfl) ?_
  refine lv_iload_n hx hb (dk DX1_init 60 rfl) rfl (lv_at hl 0 rfl) ?_
  refine lv_iconst (v := (5 : Int32)) hx hb (dk DX1_init 61 rfl) (by decide) ?_
  refine k_iast (o := o + 1) (j := 1) C hR ⟨by omega, h1⟩ rfl (by decide) (dk DX1_init 62 rfl) (fun H locs hR => ?_)
  refine lv_aload_n hx hb (dk DX1_init 63 rfl) rfl (lv_at hl 1 rfl) ?_
  refine gX1_37 (o := o) (k := o + 2) C hR ⟨by omega, h0⟩ (by simp [mrOf, rMatch, rLaw, rBook]) (dk DX1_init 64 rfl) ?_
  refine lv_iload_n hx hb (dk DX1_init 65 rfl) rfl (lv_at hl 0 rfl) ?_
  refine lv_iconst (v := (5 : Int32)) hx hb (dk DX1_init 66 rfl) (by decide) ?_
  refine k_iast (o := o + 2) (j := 1) C hR ⟨by omega, h2⟩ rfl (by decide) (dk DX1_init 67 rfl) (fun H locs hR => ?_)
  refine lv_iinc (v := (2 : Int32)) (lv' := [(1, .int (2 : Int32)), (0, .ref (G.2.1 + o))]) hx hb (dk DX1_init 68 rfl) hl (k := 0) rfl (by decide) (by decide) rfl (fun ls hl => ?_)
  refine lv_goto (tgt := 104) hx hb (dk DX1_init 69 rfl) (by decide) ?_
  refine lv_iload_n hx hb (dk DX1_init 55 rfl) rfl (lv_at hl 0 rfl) ?_
  refine lv_iconst (v := (2 : Int32)) hx hb (dk DX1_init 56 rfl) (by decide) ?_
  refine lv_icmp_ge (tgt := 129) hx hb (dk DX1_init 57 rfl) (by decide) (fun _ => ?_) (fun h => absurd (by decide) h)
  refine lv_iconst (v := (0 : Int32)) hx hb (dk DX1_init 70 rfl) (by decide) ?_
  refine lv_istore_n (lv' := [(1, .int (0 : Int32)), (0, .ref (G.2.1 + o))]) hx hb (dk DX1_init 71 rfl) rfl hl (by decide) rfl (fun ls hl => ?_)
  refine lv_iload_n hx hb (dk DX1_init 72 rfl) rfl (lv_at hl 0 rfl) ?_
  refine lv_bipush (v := (16 : Int32)) hx hb (dk DX1_init 73 rfl) (by decide) ?_
  refine lv_icmp_ge (tgt := 157) hx hb (dk DX1_init 74 rfl) (by decide) (fun h => absurd h (by decide)) (fun _ => ?_)
  refine lv_aload_n hx hb (dk DX1_init 75 rfl) rfl (lv_at hl 1 rfl) ?_
  refine gX1_40 (o := o) (k := o + 3) C hR ⟨by omega, h0⟩ (by simp [mrOf, rMatch, rLaw, rBook]) (dk DX1_init 76 rfl) ?_
  refine lv_iload_n hx hb (dk DX1_init 77 rfl) rfl (lv_at hl 0 rfl) ?_
  refine lv_iconst (v := (3 : Int32)) hx hb (dk DX1_init 78 rfl) (by decide) ?_
  refine k_iast (o := o + 3) (j := 0) C hR ⟨by omega, h3⟩ rfl (by decide) (dk DX1_init 79 rfl) (fun H locs hR => ?_)
  refine lv_aload_n hx hb (dk DX1_init 80 rfl) rfl (lv_at hl 1 rfl) ?_
  refine gX1_43 (o := o) (k := o + 4) C hR ⟨by omega, h0⟩ (by simp [mrOf, rMatch, rLaw, rBook]) (dk DX1_init 81 rfl) ?_
  refine lv_iload_n hx hb (dk DX1_init 82 rfl) rfl (lv_at hl 0 rfl) ?_
  refine lv_iconst (v := (2 : Int32)) hx hb (dk DX1_init 83 rfl) (by decide) ?_
  refine k_iast (o := o + 4) (j := 0) C hR ⟨by omega, h4⟩ rfl (by decide) (dk DX1_init 84 rfl) (fun H locs hR => ?_)
  refine lv_iinc (v := (1 : Int32)) (lv' := [(1, .int (1 : Int32)), (0, .ref (G.2.1 + o))]) hx hb (dk DX1_init 85 rfl) hl (k := 0) rfl (by decide) (by decide) rfl (fun ls hl => ?_)
  refine lv_goto (tgt := 131) hx hb (dk DX1_init 86 rfl) (by decide) ?_
  refine lv_iload_n hx hb (dk DX1_init 72 rfl) rfl (lv_at hl 0 rfl) ?_
  refine lv_bipush (v := (16 : Int32)) hx hb (dk DX1_init 73 rfl) (by decide) ?_
  refine lv_icmp_ge (tgt := 157) hx hb (dk DX1_init 74 rfl) (by decide) (fun h => absurd h (by decide)) (fun _ => ?_)
  refine lv_aload_n hx hb (dk DX1_init 75 rfl) rfl (lv_at hl 1 rfl) ?_
  refine gX1_40 (o := o) (k := o + 3) C hR ⟨by omega, h0⟩ (by simp [mrOf, rMatch, rLaw, rBook]) (dk DX1_init 76 rfl) ?_
  refine lv_iload_n hx hb (dk DX1_init 77 rfl) rfl (lv_at hl 0 rfl) ?_
  refine lv_iconst (v := (3 : Int32)) hx hb (dk DX1_init 78 rfl) (by decide) ?_
  refine k_iast (o := o + 3) (j := 1) C hR ⟨by omega, h3⟩ rfl (by decide) (dk DX1_init 79 rfl) (fun H locs hR => ?_)
  refine lv_aload_n hx hb (dk DX1_init 80 rfl) rfl (lv_at hl 1 rfl) ?_
  refine gX1_43 (o := o) (k := o + 4) C hR ⟨by omega, h0⟩ (by simp [mrOf, rMatch, rLaw, rBook]) (dk DX1_init 81 rfl) ?_
  refine lv_iload_n hx hb (dk DX1_init 82 rfl) rfl (lv_at hl 0 rfl) ?_
  refine lv_iconst (v := (2 : Int32)) hx hb (dk DX1_init 83 rfl) (by decide) ?_
  refine k_iast (o := o + 4) (j := 1) C hR ⟨by omega, h4⟩ rfl (by decide) (dk DX1_init 84 rfl) (fun H locs hR => ?_)
  refine lv_iinc (v := (2 : Int32)) (lv' := [(1, .int (2 : Int32)), (0, .ref (G.2.1 + o))]) hx hb (dk DX1_init 85 rfl) hl (k := 0) rfl (by decide) (by decide) rfl (fun ls hl => ?_)
  refine lv_goto (tgt := 131) hx hb (dk DX1_init 86 rfl) (by decide) ?_
  refine lv_iload_n hx hb (dk DX1_init 72 rfl) rfl (lv_at hl 0 rfl) ?_
  refine lv_bipush (v := (16 : Int32)) hx hb (dk DX1_init 73 rfl) (by decide) ?_
  refine lv_icmp_ge (tgt := 157) hx hb (dk DX1_init 74 rfl) (by decide) (fun h => absurd h (by decide)) (fun _ => ?_)
  refine lv_aload_n hx hb (dk DX1_init 75 rfl) rfl (lv_at hl 1 rfl) ?_
  refine gX1_40 (o := o) (k := o + 3) C hR ⟨by omega, h0⟩ (by simp [mrOf, rMatch, rLaw, rBook]) (dk DX1_init 76 rfl) ?_
  refine lv_iload_n hx hb (dk DX1_init 77 rfl) rfl (lv_at hl 0 rfl) ?_
  refine lv_iconst (v := (3 : Int32)) hx hb (dk DX1_init 78 rfl) (by decide) ?_
  refine k_iast (o := o + 3) (j := 2) C hR ⟨by omega, h3⟩ rfl (by decide) (dk DX1_init 79 rfl) (fun H locs hR => ?_)
  refine lv_aload_n hx hb (dk DX1_init 80 rfl) rfl (lv_at hl 1 rfl) ?_
  refine gX1_43 (o := o) (k := o + 4) C hR ⟨by omega, h0⟩ (by simp [mrOf, rMatch, rLaw, rBook]) (dk DX1_init 81 rfl) ?_
  refine lv_iload_n hx hb (dk DX1_init 82 rfl) rfl (lv_at hl 0 rfl) ?_
  refine lv_iconst (v := (2 : Int32)) hx hb (dk DX1_init 83 rfl) (by decide) ?_
  refine k_iast (o := o + 4) (j := 2) C hR ⟨by omega, h4⟩ rfl (by decide) (dk DX1_init 84 rfl) (fun H locs hR => ?_)
  refine lv_iinc (v := (3 : Int32)) (lv' := [(1, .int (3 : Int32)), (0, .ref (G.2.1 + o))]) hx hb (dk DX1_init 85 rfl) hl (k := 0) rfl (by decide) (by decide) rfl (fun ls hl => ?_)
  refine lv_goto (tgt := 131) hx hb (dk DX1_init 86 rfl) (by decide) ?_
  refine lv_iload_n hx hb (dk DX1_init 72 rfl) rfl (lv_at hl 0 rfl) ?_
  refine lv_bipush (v := (16 : Int32)) hx hb (dk DX1_init 73 rfl) (by decide) ?_
  refine lv_icmp_ge (tgt := 157) hx hb (dk DX1_init 74 rfl) (by decide) (fun h => absurd h (by decide)) (fun _ => ?_)
  refine lv_aload_n hx hb (dk DX1_init 75 rfl) rfl (lv_at hl 1 rfl) ?_
  refine gX1_40 (o := o) (k := o + 3) C hR ⟨by omega, h0⟩ (by simp [mrOf, rMatch, rLaw, rBook]) (dk DX1_init 76 rfl) ?_
  refine lv_iload_n hx hb (dk DX1_init 77 rfl) rfl (lv_at hl 0 rfl) ?_
  refine lv_iconst (v := (3 : Int32)) hx hb (dk DX1_init 78 rfl) (by decide) ?_
  refine k_iast (o := o + 3) (j := 3) C hR ⟨by omega, h3⟩ rfl (by decide) (dk DX1_init 79 rfl) (fun H locs hR => ?_)
  refine lv_aload_n hx hb (dk DX1_init 80 rfl) rfl (lv_at hl 1 rfl) ?_
  refine gX1_43 (o := o) (k := o + 4) C hR ⟨by omega, h0⟩ (by simp [mrOf, rMatch, rLaw, rBook]) (dk DX1_init 81 rfl) ?_
  refine lv_iload_n hx hb (dk DX1_init 82 rfl) rfl (lv_at hl 0 rfl) ?_
  refine lv_iconst (v := (2 : Int32)) hx hb (dk DX1_init 83 rfl) (by decide) ?_
  refine k_iast (o := o + 4) (j := 3) C hR ⟨by omega, h4⟩ rfl (by decide) (dk DX1_init 84 rfl) (fun H locs hR => ?_)
  refine lv_iinc (v := (4 : Int32)) (lv' := [(1, .int (4 : Int32)), (0, .ref (G.2.1 + o))]) hx hb (dk DX1_init 85 rfl) hl (k := 0) rfl (by decide) (by decide) rfl (fun ls hl => ?_)
  refine lv_goto (tgt := 131) hx hb (dk DX1_init 86 rfl) (by decide) ?_
  refine lv_iload_n hx hb (dk DX1_init 72 rfl) rfl (lv_at hl 0 rfl) ?_
  refine lv_bipush (v := (16 : Int32)) hx hb (dk DX1_init 73 rfl) (by decide) ?_
  refine lv_icmp_ge (tgt := 157) hx hb (dk DX1_init 74 rfl) (by decide) (fun h => absurd h (by decide)) (fun _ => ?_)
  refine lv_aload_n hx hb (dk DX1_init 75 rfl) rfl (lv_at hl 1 rfl) ?_
  refine gX1_40 (o := o) (k := o + 3) C hR ⟨by omega, h0⟩ (by simp [mrOf, rMatch, rLaw, rBook]) (dk DX1_init 76 rfl) ?_
  refine lv_iload_n hx hb (dk DX1_init 77 rfl) rfl (lv_at hl 0 rfl) ?_
  refine lv_iconst (v := (3 : Int32)) hx hb (dk DX1_init 78 rfl) (by decide) ?_
  refine k_iast (o := o + 3) (j := 4) C hR ⟨by omega, h3⟩ rfl (by decide) (dk DX1_init 79 rfl) (fun H locs hR => ?_)
  refine lv_aload_n hx hb (dk DX1_init 80 rfl) rfl (lv_at hl 1 rfl) ?_
  refine gX1_43 (o := o) (k := o + 4) C hR ⟨by omega, h0⟩ (by simp [mrOf, rMatch, rLaw, rBook]) (dk DX1_init 81 rfl) ?_
  refine lv_iload_n hx hb (dk DX1_init 82 rfl) rfl (lv_at hl 0 rfl) ?_
  refine lv_iconst (v := (2 : Int32)) hx hb (dk DX1_init 83 rfl) (by decide) ?_
  refine k_iast (o := o + 4) (j := 4) C hR ⟨by omega, h4⟩ rfl (by decide) (dk DX1_init 84 rfl) (fun H locs hR => ?_)
  refine lv_iinc (v := (5 : Int32)) (lv' := [(1, .int (5 : Int32)), (0, .ref (G.2.1 + o))]) hx hb (dk DX1_init 85 rfl) hl (k := 0) rfl (by decide) (by decide) rfl (fun ls hl => ?_)
  refine lv_goto (tgt := 131) hx hb (dk DX1_init 86 rfl) (by decide) ?_
  refine lv_iload_n hx hb (dk DX1_init 72 rfl) rfl (lv_at hl 0 rfl) ?_
  refine lv_bipush (v := (16 : Int32)) hx hb (dk DX1_init 73 rfl) (by decide) ?_
  refine lv_icmp_ge (tgt := 157) hx hb (dk DX1_init 74 rfl) (by decide) (fun h => absurd h (by decide)) (fun _ => ?_)
  refine lv_aload_n hx hb (dk DX1_init 75 rfl) rfl (lv_at hl 1 rfl) ?_
  refine gX1_40 (o := o) (k := o + 3) C hR ⟨by omega, h0⟩ (by simp [mrOf, rMatch, rLaw, rBook]) (dk DX1_init 76 rfl) ?_
  refine lv_iload_n hx hb (dk DX1_init 77 rfl) rfl (lv_at hl 0 rfl) ?_
  refine lv_iconst (v := (3 : Int32)) hx hb (dk DX1_init 78 rfl) (by decide) ?_
  refine k_iast (o := o + 3) (j := 5) C hR ⟨by omega, h3⟩ rfl (by decide) (dk DX1_init 79 rfl) (fun H locs hR => ?_)
  refine lv_aload_n hx hb (dk DX1_init 80 rfl) rfl (lv_at hl 1 rfl) ?_
  refine gX1_43 (o := o) (k := o + 4) C hR ⟨by omega, h0⟩ (by simp [mrOf, rMatch, rLaw, rBook]) (dk DX1_init 81 rfl) ?_
  refine lv_iload_n hx hb (dk DX1_init 82 rfl) rfl (lv_at hl 0 rfl) ?_
  refine lv_iconst (v := (2 : Int32)) hx hb (dk DX1_init 83 rfl) (by decide) ?_
  refine k_iast (o := o + 4) (j := 5) C hR ⟨by omega, h4⟩ rfl (by decide) (dk DX1_init 84 rfl) (fun H locs hR => ?_)
  refine lv_iinc (v := (6 : Int32)) (lv' := [(1, .int (6 : Int32)), (0, .ref (G.2.1 + o))]) hx hb (dk DX1_init 85 rfl) hl (k := 0) rfl (by decide) (by decide) rfl (fun ls hl => ?_)
  refine lv_goto (tgt := 131) hx hb (dk DX1_init 86 rfl) (by decide) ?_
  refine lv_iload_n hx hb (dk DX1_init 72 rfl) rfl (lv_at hl 0 rfl) ?_
  refine lv_bipush (v := (16 : Int32)) hx hb (dk DX1_init 73 rfl) (by decide) ?_
  refine lv_icmp_ge (tgt := 157) hx hb (dk DX1_init 74 rfl) (by decide) (fun h => absurd h (by decide)) (fun _ => ?_)
  refine lv_aload_n hx hb (dk DX1_init 75 rfl) rfl (lv_at hl 1 rfl) ?_
  refine gX1_40 (o := o) (k := o + 3) C hR ⟨by omega, h0⟩ (by simp [mrOf, rMatch, rLaw, rBook]) (dk DX1_init 76 rfl) ?_
  refine lv_iload_n hx hb (dk DX1_init 77 rfl) rfl (lv_at hl 0 rfl) ?_
  refine lv_iconst (v := (3 : Int32)) hx hb (dk DX1_init 78 rfl) (by decide) ?_
  refine k_iast (o := o + 3) (j := 6) C hR ⟨by omega, h3⟩ rfl (by decide) (dk DX1_init 79 rfl) (fun H locs hR => ?_)
  refine lv_aload_n hx hb (dk DX1_init 80 rfl) rfl (lv_at hl 1 rfl) ?_
  refine gX1_43 (o := o) (k := o + 4) C hR ⟨by omega, h0⟩ (by simp [mrOf, rMatch, rLaw, rBook]) (dk DX1_init 81 rfl) ?_
  refine lv_iload_n hx hb (dk DX1_init 82 rfl) rfl (lv_at hl 0 rfl) ?_
  refine lv_iconst (v := (2 : Int32)) hx hb (dk DX1_init 83 rfl) (by decide) ?_
  refine k_iast (o := o + 4) (j := 6) C hR ⟨by omega, h4⟩ rfl (by decide) (dk DX1_init 84 rfl) (fun H locs hR => ?_)
  refine lv_iinc (v := (7 : Int32)) (lv' := [(1, .int (7 : Int32)), (0, .ref (G.2.1 + o))]) hx hb (dk DX1_init 85 rfl) hl (k := 0) rfl (by decide) (by decide) rfl (fun ls hl => ?_)
  refine lv_goto (tgt := 131) hx hb (dk DX1_init 86 rfl) (by decide) ?_
  refine lv_iload_n hx hb (dk DX1_init 72 rfl) rfl (lv_at hl 0 rfl) ?_
  refine lv_bipush (v := (16 : Int32)) hx hb (dk DX1_init 73 rfl) (by decide) ?_
  refine lv_icmp_ge (tgt := 157) hx hb (dk DX1_init 74 rfl) (by decide) (fun h => absurd h (by decide)) (fun _ => ?_)
  refine lv_aload_n hx hb (dk DX1_init 75 rfl) rfl (lv_at hl 1 rfl) ?_
  refine gX1_40 (o := o) (k := o + 3) C hR ⟨by omega, h0⟩ (by simp [mrOf, rMatch, rLaw, rBook]) (dk DX1_init 76 rfl) ?_
  refine lv_iload_n hx hb (dk DX1_init 77 rfl) rfl (lv_at hl 0 rfl) ?_
  refine lv_iconst (v := (3 : Int32)) hx hb (dk DX1_init 78 rfl) (by decide) ?_
  refine k_iast (o := o + 3) (j := 7) C hR ⟨by omega, h3⟩ rfl (by decide) (dk DX1_init 79 rfl) (fun H locs hR => ?_)
  refine lv_aload_n hx hb (dk DX1_init 80 rfl) rfl (lv_at hl 1 rfl) ?_
  refine gX1_43 (o := o) (k := o + 4) C hR ⟨by omega, h0⟩ (by simp [mrOf, rMatch, rLaw, rBook]) (dk DX1_init 81 rfl) ?_
  refine lv_iload_n hx hb (dk DX1_init 82 rfl) rfl (lv_at hl 0 rfl) ?_
  refine lv_iconst (v := (2 : Int32)) hx hb (dk DX1_init 83 rfl) (by decide) ?_
  refine k_iast (o := o + 4) (j := 7) C hR ⟨by omega, h4⟩ rfl (by decide) (dk DX1_init 84 rfl) (fun H locs hR => ?_)
  refine lv_iinc (v := (8 : Int32)) (lv' := [(1, .int (8 : Int32)), (0, .ref (G.2.1 + o))]) hx hb (dk DX1_init 85 rfl) hl (k := 0) rfl (by decide) (by decide) rfl (fun ls hl => ?_)
  refine lv_goto (tgt := 131) hx hb (dk DX1_init 86 rfl) (by decide) ?_
  refine lv_iload_n hx hb (dk DX1_init 72 rfl) rfl (lv_at hl 0 rfl) ?_
  refine lv_bipush (v := (16 : Int32)) hx hb (dk DX1_init 73 rfl) (by decide) ?_
  refine lv_icmp_ge (tgt := 157) hx hb (dk DX1_init 74 rfl) (by decide) (fun h => absurd h (by decide)) (fun _ => ?_)
  refine lv_aload_n hx hb (dk DX1_init 75 rfl) rfl (lv_at hl 1 rfl) ?_
  refine gX1_40 (o := o) (k := o + 3) C hR ⟨by omega, h0⟩ (by simp [mrOf, rMatch, rLaw, rBook]) (dk DX1_init 76 rfl) ?_
  refine lv_iload_n hx hb (dk DX1_init 77 rfl) rfl (lv_at hl 0 rfl) ?_
  refine lv_iconst (v := (3 : Int32)) hx hb (dk DX1_init 78 rfl) (by decide) ?_
  refine k_iast (o := o + 3) (j := 8) C hR ⟨by omega, h3⟩ rfl (by decide) (dk DX1_init 79 rfl) (fun H locs hR => ?_)
  refine lv_aload_n hx hb (dk DX1_init 80 rfl) rfl (lv_at hl 1 rfl) ?_
  refine gX1_43 (o := o) (k := o + 4) C hR ⟨by omega, h0⟩ (by simp [mrOf, rMatch, rLaw, rBook]) (dk DX1_init 81 rfl) ?_
  refine lv_iload_n hx hb (dk DX1_init 82 rfl) rfl (lv_at hl 0 rfl) ?_
  refine lv_iconst (v := (2 : Int32)) hx hb (dk DX1_init 83 rfl) (by decide) ?_
  refine k_iast (o := o + 4) (j := 8) C hR ⟨by omega, h4⟩ rfl (by decide) (dk DX1_init 84 rfl) (fun H locs hR => ?_)
  refine lv_iinc (v := (9 : Int32)) (lv' := [(1, .int (9 : Int32)), (0, .ref (G.2.1 + o))]) hx hb (dk DX1_init 85 rfl) hl (k := 0) rfl (by decide) (by decide) rfl (fun ls hl => ?_)
  refine lv_goto (tgt := 131) hx hb (dk DX1_init 86 rfl) (by decide) ?_
  refine lv_iload_n hx hb (dk DX1_init 72 rfl) rfl (lv_at hl 0 rfl) ?_
  refine lv_bipush (v := (16 : Int32)) hx hb (dk DX1_init 73 rfl) (by decide) ?_
  refine lv_icmp_ge (tgt := 157) hx hb (dk DX1_init 74 rfl) (by decide) (fun h => absurd h (by decide)) (fun _ => ?_)
  refine lv_aload_n hx hb (dk DX1_init 75 rfl) rfl (lv_at hl 1 rfl) ?_
  refine gX1_40 (o := o) (k := o + 3) C hR ⟨by omega, h0⟩ (by simp [mrOf, rMatch, rLaw, rBook]) (dk DX1_init 76 rfl) ?_
  refine lv_iload_n hx hb (dk DX1_init 77 rfl) rfl (lv_at hl 0 rfl) ?_
  refine lv_iconst (v := (3 : Int32)) hx hb (dk DX1_init 78 rfl) (by decide) ?_
  refine k_iast (o := o + 3) (j := 9) C hR ⟨by omega, h3⟩ rfl (by decide) (dk DX1_init 79 rfl) (fun H locs hR => ?_)
  refine lv_aload_n hx hb (dk DX1_init 80 rfl) rfl (lv_at hl 1 rfl) ?_
  refine gX1_43 (o := o) (k := o + 4) C hR ⟨by omega, h0⟩ (by simp [mrOf, rMatch, rLaw, rBook]) (dk DX1_init 81 rfl) ?_
  refine lv_iload_n hx hb (dk DX1_init 82 rfl) rfl (lv_at hl 0 rfl) ?_
  refine lv_iconst (v := (2 : Int32)) hx hb (dk DX1_init 83 rfl) (by decide) ?_
  refine k_iast (o := o + 4) (j := 9) C hR ⟨by omega, h4⟩ rfl (by decide) (dk DX1_init 84 rfl) (fun H locs hR => ?_)
  refine lv_iinc (v := (10 : Int32)) (lv' := [(1, .int (10 : Int32)), (0, .ref (G.2.1 + o))]) hx hb (dk DX1_init 85 rfl) hl (k := 0) rfl (by decide) (by decide) rfl (fun ls hl => ?_)
  refine lv_goto (tgt := 131) hx hb (dk DX1_init 86 rfl) (by decide) ?_
  refine lv_iload_n hx hb (dk DX1_init 72 rfl) rfl (lv_at hl 0 rfl) ?_
  refine lv_bipush (v := (16 : Int32)) hx hb (dk DX1_init 73 rfl) (by decide) ?_
  refine lv_icmp_ge (tgt := 157) hx hb (dk DX1_init 74 rfl) (by decide) (fun h => absurd h (by decide)) (fun _ => ?_)
  refine lv_aload_n hx hb (dk DX1_init 75 rfl) rfl (lv_at hl 1 rfl) ?_
  refine gX1_40 (o := o) (k := o + 3) C hR ⟨by omega, h0⟩ (by simp [mrOf, rMatch, rLaw, rBook]) (dk DX1_init 76 rfl) ?_
  refine lv_iload_n hx hb (dk DX1_init 77 rfl) rfl (lv_at hl 0 rfl) ?_
  refine lv_iconst (v := (3 : Int32)) hx hb (dk DX1_init 78 rfl) (by decide) ?_
  refine k_iast (o := o + 3) (j := 10) C hR ⟨by omega, h3⟩ rfl (by decide) (dk DX1_init 79 rfl) (fun H locs hR => ?_)
  refine lv_aload_n hx hb (dk DX1_init 80 rfl) rfl (lv_at hl 1 rfl) ?_
  refine gX1_43 (o := o) (k := o + 4) C hR ⟨by omega, h0⟩ (by simp [mrOf, rMatch, rLaw, rBook]) (dk DX1_init 81 rfl) ?_
  refine lv_iload_n hx hb (dk DX1_init 82 rfl) rfl (lv_at hl 0 rfl) ?_
  refine lv_iconst (v := (2 : Int32)) hx hb (dk DX1_init 83 rfl) (by decide) ?_
  refine k_iast (o := o + 4) (j := 10) C hR ⟨by omega, h4⟩ rfl (by decide) (dk DX1_init 84 rfl) (fun H locs hR => ?_)
  refine lv_iinc (v := (11 : Int32)) (lv' := [(1, .int (11 : Int32)), (0, .ref (G.2.1 + o))]) hx hb (dk DX1_init 85 rfl) hl (k := 0) rfl (by decide) (by decide) rfl (fun ls hl => ?_)
  refine lv_goto (tgt := 131) hx hb (dk DX1_init 86 rfl) (by decide) ?_
  refine lv_iload_n hx hb (dk DX1_init 72 rfl) rfl (lv_at hl 0 rfl) ?_
  refine lv_bipush (v := (16 : Int32)) hx hb (dk DX1_init 73 rfl) (by decide) ?_
  refine lv_icmp_ge (tgt := 157) hx hb (dk DX1_init 74 rfl) (by decide) (fun h => absurd h (by decide)) (fun _ => ?_)
  refine lv_aload_n hx hb (dk DX1_init 75 rfl) rfl (lv_at hl 1 rfl) ?_
  refine gX1_40 (o := o) (k := o + 3) C hR ⟨by omega, h0⟩ (by simp [mrOf, rMatch, rLaw, rBook]) (dk DX1_init 76 rfl) ?_
  refine lv_iload_n hx hb (dk DX1_init 77 rfl) rfl (lv_at hl 0 rfl) ?_
  refine lv_iconst (v := (3 : Int32)) hx hb (dk DX1_init 78 rfl) (by decide) ?_
  refine k_iast (o := o + 3) (j := 11) C hR ⟨by omega, h3⟩ rfl (by decide) (dk DX1_init 79 rfl) (fun H locs hR => ?_)
  refine lv_aload_n hx hb (dk DX1_init 80 rfl) rfl (lv_at hl 1 rfl) ?_
  refine gX1_43 (o := o) (k := o + 4) C hR ⟨by omega, h0⟩ (by simp [mrOf, rMatch, rLaw, rBook]) (dk DX1_init 81 rfl) ?_
  refine lv_iload_n hx hb (dk DX1_init 82 rfl) rfl (lv_at hl 0 rfl) ?_
  refine lv_iconst (v := (2 : Int32)) hx hb (dk DX1_init 83 rfl) (by decide) ?_
  refine k_iast (o := o + 4) (j := 11) C hR ⟨by omega, h4⟩ rfl (by decide) (dk DX1_init 84 rfl) (fun H locs hR => ?_)
  refine lv_iinc (v := (12 : Int32)) (lv' := [(1, .int (12 : Int32)), (0, .ref (G.2.1 + o))]) hx hb (dk DX1_init 85 rfl) hl (k := 0) rfl (by decide) (by decide) rfl (fun ls hl => ?_)
  refine lv_goto (tgt := 131) hx hb (dk DX1_init 86 rfl) (by decide) ?_
  refine lv_iload_n hx hb (dk DX1_init 72 rfl) rfl (lv_at hl 0 rfl) ?_
  refine lv_bipush (v := (16 : Int32)) hx hb (dk DX1_init 73 rfl) (by decide) ?_
  refine lv_icmp_ge (tgt := 157) hx hb (dk DX1_init 74 rfl) (by decide) (fun h => absurd h (by decide)) (fun _ => ?_)
  refine lv_aload_n hx hb (dk DX1_init 75 rfl) rfl (lv_at hl 1 rfl) ?_
  refine gX1_40 (o := o) (k := o + 3) C hR ⟨by omega, h0⟩ (by simp [mrOf, rMatch, rLaw, rBook]) (dk DX1_init 76 rfl) ?_
  refine lv_iload_n hx hb (dk DX1_init 77 rfl) rfl (lv_at hl 0 rfl) ?_
  refine lv_iconst (v := (3 : Int32)) hx hb (dk DX1_init 78 rfl) (by decide) ?_
  refine k_iast (o := o + 3) (j := 12) C hR ⟨by omega, h3⟩ rfl (by decide) (dk DX1_init 79 rfl) (fun H locs hR => ?_)
  refine lv_aload_n hx hb (dk DX1_init 80 rfl) rfl (lv_at hl 1 rfl) ?_
  refine gX1_43 (o := o) (k := o + 4) C hR ⟨by omega, h0⟩ (by simp [mrOf, rMatch, rLaw, rBook]) (dk DX1_init 81 rfl) ?_
  refine lv_iload_n hx hb (dk DX1_init 82 rfl) rfl (lv_at hl 0 rfl) ?_
  refine lv_iconst (v := (2 : Int32)) hx hb (dk DX1_init 83 rfl) (by decide) ?_
  refine k_iast (o := o + 4) (j := 12) C hR ⟨by omega, h4⟩ rfl (by decide) (dk DX1_init 84 rfl) (fun H locs hR => ?_)
  refine lv_iinc (v := (13 : Int32)) (lv' := [(1, .int (13 : Int32)), (0, .ref (G.2.1 + o))]) hx hb (dk DX1_init 85 rfl) hl (k := 0) rfl (by decide) (by decide) rfl (fun ls hl => ?_)
  refine lv_goto (tgt := 131) hx hb (dk DX1_init 86 rfl) (by decide) ?_
  refine lv_iload_n hx hb (dk DX1_init 72 rfl) rfl (lv_at hl 0 rfl) ?_
  refine lv_bipush (v := (16 : Int32)) hx hb (dk DX1_init 73 rfl) (by decide) ?_
  refine lv_icmp_ge (tgt := 157) hx hb (dk DX1_init 74 rfl) (by decide) (fun h => absurd h (by decide)) (fun _ => ?_)
  refine lv_aload_n hx hb (dk DX1_init 75 rfl) rfl (lv_at hl 1 rfl) ?_
  refine gX1_40 (o := o) (k := o + 3) C hR ⟨by omega, h0⟩ (by simp [mrOf, rMatch, rLaw, rBook]) (dk DX1_init 76 rfl) ?_
  refine lv_iload_n hx hb (dk DX1_init 77 rfl) rfl (lv_at hl 0 rfl) ?_
  refine lv_iconst (v := (3 : Int32)) hx hb (dk DX1_init 78 rfl) (by decide) ?_
  refine k_iast (o := o + 3) (j := 13) C hR ⟨by omega, h3⟩ rfl (by decide) (dk DX1_init 79 rfl) (fun H locs hR => ?_)
  refine lv_aload_n hx hb (dk DX1_init 80 rfl) rfl (lv_at hl 1 rfl) ?_
  refine gX1_43 (o := o) (k := o + 4) C hR ⟨by omega, h0⟩ (by simp [mrOf, rMatch, rLaw, rBook]) (dk DX1_init 81 rfl) ?_
  refine lv_iload_n hx hb (dk DX1_init 82 rfl) rfl (lv_at hl 0 rfl) ?_
  refine lv_iconst (v := (2 : Int32)) hx hb (dk DX1_init 83 rfl) (by decide) ?_
  refine k_iast (o := o + 4) (j := 13) C hR ⟨by omega, h4⟩ rfl (by decide) (dk DX1_init 84 rfl) (fun H locs hR => ?_)
  refine lv_iinc (v := (14 : Int32)) (lv' := [(1, .int (14 : Int32)), (0, .ref (G.2.1 + o))]) hx hb (dk DX1_init 85 rfl) hl (k := 0) rfl (by decide) (by decide) rfl (fun ls hl => ?_)
  refine lv_goto (tgt := 131) hx hb (dk DX1_init 86 rfl) (by decide) ?_
  refine lv_iload_n hx hb (dk DX1_init 72 rfl) rfl (lv_at hl 0 rfl) ?_
  refine lv_bipush (v := (16 : Int32)) hx hb (dk DX1_init 73 rfl) (by decide) ?_
  refine lv_icmp_ge (tgt := 157) hx hb (dk DX1_init 74 rfl) (by decide) (fun h => absurd h (by decide)) (fun _ => ?_)
  refine lv_aload_n hx hb (dk DX1_init 75 rfl) rfl (lv_at hl 1 rfl) ?_
  refine gX1_40 (o := o) (k := o + 3) C hR ⟨by omega, h0⟩ (by simp [mrOf, rMatch, rLaw, rBook]) (dk DX1_init 76 rfl) ?_
  refine lv_iload_n hx hb (dk DX1_init 77 rfl) rfl (lv_at hl 0 rfl) ?_
  refine lv_iconst (v := (3 : Int32)) hx hb (dk DX1_init 78 rfl) (by decide) ?_
  refine k_iast (o := o + 3) (j := 14) C hR ⟨by omega, h3⟩ rfl (by decide) (dk DX1_init 79 rfl) (fun H locs hR => ?_)
  refine lv_aload_n hx hb (dk DX1_init 80 rfl) rfl (lv_at hl 1 rfl) ?_
  refine gX1_43 (o := o) (k := o + 4) C hR ⟨by omega, h0⟩ (by simp [mrOf, rMatch, rLaw, rBook]) (dk DX1_init 81 rfl) ?_
  refine lv_iload_n hx hb (dk DX1_init 82 rfl) rfl (lv_at hl 0 rfl) ?_
  refine lv_iconst (v := (2 : Int32)) hx hb (dk DX1_init 83 rfl) (by decide) ?_
  refine k_iast (o := o + 4) (j := 14) C hR ⟨by omega, h4⟩ rfl (by decide) (dk DX1_init 84 rfl) (fun H locs hR => ?_)
  refine lv_iinc (v := (15 : Int32)) (lv' := [(1, .int (15 : Int32)), (0, .ref (G.2.1 + o))]) hx hb (dk DX1_init 85 rfl) hl (k := 0) rfl (by decide) (by decide) rfl (fun ls hl => ?_)
  refine lv_goto (tgt := 131) hx hb (dk DX1_init 86 rfl) (by decide) ?_
  refine lv_iload_n hx hb (dk DX1_init 72 rfl) rfl (lv_at hl 0 rfl) ?_
  refine lv_bipush (v := (16 : Int32)) hx hb (dk DX1_init 73 rfl) (by decide) ?_
  refine lv_icmp_ge (tgt := 157) hx hb (dk DX1_init 74 rfl) (by decide) (fun h => absurd h (by decide)) (fun _ => ?_)
  refine lv_aload_n hx hb (dk DX1_init 75 rfl) rfl (lv_at hl 1 rfl) ?_
  refine gX1_40 (o := o) (k := o + 3) C hR ⟨by omega, h0⟩ (by simp [mrOf, rMatch, rLaw, rBook]) (dk DX1_init 76 rfl) ?_
  refine lv_iload_n hx hb (dk DX1_init 77 rfl) rfl (lv_at hl 0 rfl) ?_
  refine lv_iconst (v := (3 : Int32)) hx hb (dk DX1_init 78 rfl) (by decide) ?_
  refine k_iast (o := o + 3) (j := 15) C hR ⟨by omega, h3⟩ rfl (by decide) (dk DX1_init 79 rfl) (fun H locs hR => ?_)
  refine lv_aload_n hx hb (dk DX1_init 80 rfl) rfl (lv_at hl 1 rfl) ?_
  refine gX1_43 (o := o) (k := o + 4) C hR ⟨by omega, h0⟩ (by simp [mrOf, rMatch, rLaw, rBook]) (dk DX1_init 81 rfl) ?_
  refine lv_iload_n hx hb (dk DX1_init 82 rfl) rfl (lv_at hl 0 rfl) ?_
  refine lv_iconst (v := (2 : Int32)) hx hb (dk DX1_init 83 rfl) (by decide) ?_
  refine k_iast (o := o + 4) (j := 15) C hR ⟨by omega, h4⟩ rfl (by decide) (dk DX1_init 84 rfl) (fun H locs hR => ?_)
  refine lv_iinc (v := (16 : Int32)) (lv' := [(1, .int (16 : Int32)), (0, .ref (G.2.1 + o))]) hx hb (dk DX1_init 85 rfl) hl (k := 0) rfl (by decide) (by decide) rfl (fun ls hl => ?_)
  refine lv_goto (tgt := 131) hx hb (dk DX1_init 86 rfl) (by decide) ?_
  refine lv_iload_n hx hb (dk DX1_init 72 rfl) rfl (lv_at hl 0 rfl) ?_
  refine lv_bipush (v := (16 : Int32)) hx hb (dk DX1_init 73 rfl) (by decide) ?_
  refine lv_icmp_ge (tgt := 157) hx hb (dk DX1_init 74 rfl) (by decide) (fun _ => ?_) (fun h => absurd (by decide) h)
  refine lv_iconst (v := (0 : Int32)) hx hb (dk DX1_init 87 rfl) (by decide) ?_
  refine lv_istore_n (lv' := [(1, .int (0 : Int32)), (0, .ref (G.2.1 + o))]) hx hb (dk DX1_init 88 rfl) rfl hl (by decide) rfl (fun ls hl => ?_)
  refine lv_iload_n hx hb (dk DX1_init 89 rfl) rfl (lv_at hl 0 rfl) ?_
  refine lv_bipush (v := (72 : Int32)) hx hb (dk DX1_init 90 rfl) (by decide) ?_
  refine lv_icmp_ge (tgt := 178) hx hb (dk DX1_init 91 rfl) (by decide) (fun h => absurd h (by decide)) (fun _ => ?_)
  refine lv_aload_n hx hb (dk DX1_init 92 rfl) rfl (lv_at hl 1 rfl) ?_
  refine gX1_60 (o := o) (k := o + 11) C hR ⟨by omega, h0⟩ (by simp [mrOf, rMatch, rLaw, rBook]) (dk DX1_init 93 rfl) ?_
  refine lv_iload_n hx hb (dk DX1_init 94 rfl) rfl (lv_at hl 0 rfl) ?_
  refine lv_iconst (v := (-1 : Int32)) hx hb (dk DX1_init 95 rfl) (by decide) ?_
  refine k_iast (o := o + 11) (j := 0) C hR ⟨by omega, h11⟩ rfl (by decide) (dk DX1_init 96 rfl) (fun H locs hR => ?_)
  refine lv_iinc (v := (1 : Int32)) (lv' := [(1, .int (1 : Int32)), (0, .ref (G.2.1 + o))]) hx hb (dk DX1_init 97 rfl) hl (k := 0) rfl (by decide) (by decide) rfl (fun ls hl => ?_)
  refine lv_goto (tgt := 159) hx hb (dk DX1_init 98 rfl) (by decide) ?_
  refine lv_iload_n hx hb (dk DX1_init 89 rfl) rfl (lv_at hl 0 rfl) ?_
  refine lv_bipush (v := (72 : Int32)) hx hb (dk DX1_init 90 rfl) (by decide) ?_
  refine lv_icmp_ge (tgt := 178) hx hb (dk DX1_init 91 rfl) (by decide) (fun h => absurd h (by decide)) (fun _ => ?_)
  refine lv_aload_n hx hb (dk DX1_init 92 rfl) rfl (lv_at hl 1 rfl) ?_
  refine gX1_60 (o := o) (k := o + 11) C hR ⟨by omega, h0⟩ (by simp [mrOf, rMatch, rLaw, rBook]) (dk DX1_init 93 rfl) ?_
  refine lv_iload_n hx hb (dk DX1_init 94 rfl) rfl (lv_at hl 0 rfl) ?_
  refine lv_iconst (v := (-1 : Int32)) hx hb (dk DX1_init 95 rfl) (by decide) ?_
  refine k_iast (o := o + 11) (j := 1) C hR ⟨by omega, h11⟩ rfl (by decide) (dk DX1_init 96 rfl) (fun H locs hR => ?_)
  refine lv_iinc (v := (2 : Int32)) (lv' := [(1, .int (2 : Int32)), (0, .ref (G.2.1 + o))]) hx hb (dk DX1_init 97 rfl) hl (k := 0) rfl (by decide) (by decide) rfl (fun ls hl => ?_)
  refine lv_goto (tgt := 159) hx hb (dk DX1_init 98 rfl) (by decide) ?_
  refine lv_iload_n hx hb (dk DX1_init 89 rfl) rfl (lv_at hl 0 rfl) ?_
  refine lv_bipush (v := (72 : Int32)) hx hb (dk DX1_init 90 rfl) (by decide) ?_
  refine lv_icmp_ge (tgt := 178) hx hb (dk DX1_init 91 rfl) (by decide) (fun h => absurd h (by decide)) (fun _ => ?_)
  refine lv_aload_n hx hb (dk DX1_init 92 rfl) rfl (lv_at hl 1 rfl) ?_
  refine gX1_60 (o := o) (k := o + 11) C hR ⟨by omega, h0⟩ (by simp [mrOf, rMatch, rLaw, rBook]) (dk DX1_init 93 rfl) ?_
  refine lv_iload_n hx hb (dk DX1_init 94 rfl) rfl (lv_at hl 0 rfl) ?_
  refine lv_iconst (v := (-1 : Int32)) hx hb (dk DX1_init 95 rfl) (by decide) ?_
  refine k_iast (o := o + 11) (j := 2) C hR ⟨by omega, h11⟩ rfl (by decide) (dk DX1_init 96 rfl) (fun H locs hR => ?_)
  refine lv_iinc (v := (3 : Int32)) (lv' := [(1, .int (3 : Int32)), (0, .ref (G.2.1 + o))]) hx hb (dk DX1_init 97 rfl) hl (k := 0) rfl (by decide) (by decide) rfl (fun ls hl => ?_)
  refine lv_goto (tgt := 159) hx hb (dk DX1_init 98 rfl) (by decide) ?_
  refine lv_iload_n hx hb (dk DX1_init 89 rfl) rfl (lv_at hl 0 rfl) ?_
  refine lv_bipush (v := (72 : Int32)) hx hb (dk DX1_init 90 rfl) (by decide) ?_
  refine lv_icmp_ge (tgt := 178) hx hb (dk DX1_init 91 rfl) (by decide) (fun h => absurd h (by decide)) (fun _ => ?_)
  refine lv_aload_n hx hb (dk DX1_init 92 rfl) rfl (lv_at hl 1 rfl) ?_
  refine gX1_60 (o := o) (k := o + 11) C hR ⟨by omega, h0⟩ (by simp [mrOf, rMatch, rLaw, rBook]) (dk DX1_init 93 rfl) ?_
  refine lv_iload_n hx hb (dk DX1_init 94 rfl) rfl (lv_at hl 0 rfl) ?_
  refine lv_iconst (v := (-1 : Int32)) hx hb (dk DX1_init 95 rfl) (by decide) ?_
  refine k_iast (o := o + 11) (j := 3) C hR ⟨by omega, h11⟩ rfl (by decide) (dk DX1_init 96 rfl) (fun H locs hR => ?_)
  refine lv_iinc (v := (4 : Int32)) (lv' := [(1, .int (4 : Int32)), (0, .ref (G.2.1 + o))]) hx hb (dk DX1_init 97 rfl) hl (k := 0) rfl (by decide) (by decide) rfl (fun ls hl => ?_)
  refine lv_goto (tgt := 159) hx hb (dk DX1_init 98 rfl) (by decide) ?_
  refine lv_iload_n hx hb (dk DX1_init 89 rfl) rfl (lv_at hl 0 rfl) ?_
  refine lv_bipush (v := (72 : Int32)) hx hb (dk DX1_init 90 rfl) (by decide) ?_
  refine lv_icmp_ge (tgt := 178) hx hb (dk DX1_init 91 rfl) (by decide) (fun h => absurd h (by decide)) (fun _ => ?_)
  refine lv_aload_n hx hb (dk DX1_init 92 rfl) rfl (lv_at hl 1 rfl) ?_
  refine gX1_60 (o := o) (k := o + 11) C hR ⟨by omega, h0⟩ (by simp [mrOf, rMatch, rLaw, rBook]) (dk DX1_init 93 rfl) ?_
  refine lv_iload_n hx hb (dk DX1_init 94 rfl) rfl (lv_at hl 0 rfl) ?_
  refine lv_iconst (v := (-1 : Int32)) hx hb (dk DX1_init 95 rfl) (by decide) ?_
  refine k_iast (o := o + 11) (j := 4) C hR ⟨by omega, h11⟩ rfl (by decide) (dk DX1_init 96 rfl) (fun H locs hR => ?_)
  refine lv_iinc (v := (5 : Int32)) (lv' := [(1, .int (5 : Int32)), (0, .ref (G.2.1 + o))]) hx hb (dk DX1_init 97 rfl) hl (k := 0) rfl (by decide) (by decide) rfl (fun ls hl => ?_)
  refine lv_goto (tgt := 159) hx hb (dk DX1_init 98 rfl) (by decide) ?_
  refine lv_iload_n hx hb (dk DX1_init 89 rfl) rfl (lv_at hl 0 rfl) ?_
  refine lv_bipush (v := (72 : Int32)) hx hb (dk DX1_init 90 rfl) (by decide) ?_
  refine lv_icmp_ge (tgt := 178) hx hb (dk DX1_init 91 rfl) (by decide) (fun h => absurd h (by decide)) (fun _ => ?_)
  refine lv_aload_n hx hb (dk DX1_init 92 rfl) rfl (lv_at hl 1 rfl) ?_
  refine gX1_60 (o := o) (k := o + 11) C hR ⟨by omega, h0⟩ (by simp [mrOf, rMatch, rLaw, rBook]) (dk DX1_init 93 rfl) ?_
  refine lv_iload_n hx hb (dk DX1_init 94 rfl) rfl (lv_at hl 0 rfl) ?_
  refine lv_iconst (v := (-1 : Int32)) hx hb (dk DX1_init 95 rfl) (by decide) ?_
  refine k_iast (o := o + 11) (j := 5) C hR ⟨by omega, h11⟩ rfl (by decide) (dk DX1_init 96 rfl) (fun H locs hR => ?_)
  refine lv_iinc (v := (6 : Int32)) (lv' := [(1, .int (6 : Int32)), (0, .ref (G.2.1 + o))]) hx hb (dk DX1_init 97 rfl) hl (k := 0) rfl (by decide) (by decide) rfl (fun ls hl => ?_)
  refine lv_goto (tgt := 159) hx hb (dk DX1_init 98 rfl) (by decide) ?_
  refine lv_iload_n hx hb (dk DX1_init 89 rfl) rfl (lv_at hl 0 rfl) ?_
  refine lv_bipush (v := (72 : Int32)) hx hb (dk DX1_init 90 rfl) (by decide) ?_
  refine lv_icmp_ge (tgt := 178) hx hb (dk DX1_init 91 rfl) (by decide) (fun h => absurd h (by decide)) (fun _ => ?_)
  refine lv_aload_n hx hb (dk DX1_init 92 rfl) rfl (lv_at hl 1 rfl) ?_
  refine gX1_60 (o := o) (k := o + 11) C hR ⟨by omega, h0⟩ (by simp [mrOf, rMatch, rLaw, rBook]) (dk DX1_init 93 rfl) ?_
  refine lv_iload_n hx hb (dk DX1_init 94 rfl) rfl (lv_at hl 0 rfl) ?_
  refine lv_iconst (v := (-1 : Int32)) hx hb (dk DX1_init 95 rfl) (by decide) ?_
  refine k_iast (o := o + 11) (j := 6) C hR ⟨by omega, h11⟩ rfl (by decide) (dk DX1_init 96 rfl) (fun H locs hR => ?_)
  refine lv_iinc (v := (7 : Int32)) (lv' := [(1, .int (7 : Int32)), (0, .ref (G.2.1 + o))]) hx hb (dk DX1_init 97 rfl) hl (k := 0) rfl (by decide) (by decide) rfl (fun ls hl => ?_)
  refine lv_goto (tgt := 159) hx hb (dk DX1_init 98 rfl) (by decide) ?_
  refine lv_iload_n hx hb (dk DX1_init 89 rfl) rfl (lv_at hl 0 rfl) ?_
  refine lv_bipush (v := (72 : Int32)) hx hb (dk DX1_init 90 rfl) (by decide) ?_
  refine lv_icmp_ge (tgt := 178) hx hb (dk DX1_init 91 rfl) (by decide) (fun h => absurd h (by decide)) (fun _ => ?_)
  refine lv_aload_n hx hb (dk DX1_init 92 rfl) rfl (lv_at hl 1 rfl) ?_
  refine gX1_60 (o := o) (k := o + 11) C hR ⟨by omega, h0⟩ (by simp [mrOf, rMatch, rLaw, rBook]) (dk DX1_init 93 rfl) ?_
  refine lv_iload_n hx hb (dk DX1_init 94 rfl) rfl (lv_at hl 0 rfl) ?_
  refine lv_iconst (v := (-1 : Int32)) hx hb (dk DX1_init 95 rfl) (by decide) ?_
  refine k_iast (o := o + 11) (j := 7) C hR ⟨by omega, h11⟩ rfl (by decide) (dk DX1_init 96 rfl) (fun H locs hR => ?_)
  refine lv_iinc (v := (8 : Int32)) (lv' := [(1, .int (8 : Int32)), (0, .ref (G.2.1 + o))]) hx hb (dk DX1_init 97 rfl) hl (k := 0) rfl (by decide) (by decide) rfl (fun ls hl => ?_)
  refine lv_goto (tgt := 159) hx hb (dk DX1_init 98 rfl) (by decide) ?_
  refine lv_iload_n hx hb (dk DX1_init 89 rfl) rfl (lv_at hl 0 rfl) ?_
  refine lv_bipush (v := (72 : Int32)) hx hb (dk DX1_init 90 rfl) (by decide) ?_
  refine lv_icmp_ge (tgt := 178) hx hb (dk DX1_init 91 rfl) (by decide) (fun h => absurd h (by decide)) (fun _ => ?_)
  refine lv_aload_n hx hb (dk DX1_init 92 rfl) rfl (lv_at hl 1 rfl) ?_
  refine gX1_60 (o := o) (k := o + 11) C hR ⟨by omega, h0⟩ (by simp [mrOf, rMatch, rLaw, rBook]) (dk DX1_init 93 rfl) ?_
  refine lv_iload_n hx hb (dk DX1_init 94 rfl) rfl (lv_at hl 0 rfl) ?_
  refine lv_iconst (v := (-1 : Int32)) hx hb (dk DX1_init 95 rfl) (by decide) ?_
  refine k_iast (o := o + 11) (j := 8) C hR ⟨by omega, h11⟩ rfl (by decide) (dk DX1_init 96 rfl) (fun H locs hR => ?_)
  refine lv_iinc (v := (9 : Int32)) (lv' := [(1, .int (9 : Int32)), (0, .ref (G.2.1 + o))]) hx hb (dk DX1_init 97 rfl) hl (k := 0) rfl (by decide) (by decide) rfl (fun ls hl => ?_)
  refine lv_goto (tgt := 159) hx hb (dk DX1_init 98 rfl) (by decide) ?_
  refine lv_iload_n hx hb (dk DX1_init 89 rfl) rfl (lv_at hl 0 rfl) ?_
  refine lv_bipush (v := (72 : Int32)) hx hb (dk DX1_init 90 rfl) (by decide) ?_
  refine lv_icmp_ge (tgt := 178) hx hb (dk DX1_init 91 rfl) (by decide) (fun h => absurd h (by decide)) (fun _ => ?_)
  refine lv_aload_n hx hb (dk DX1_init 92 rfl) rfl (lv_at hl 1 rfl) ?_
  refine gX1_60 (o := o) (k := o + 11) C hR ⟨by omega, h0⟩ (by simp [mrOf, rMatch, rLaw, rBook]) (dk DX1_init 93 rfl) ?_
  refine lv_iload_n hx hb (dk DX1_init 94 rfl) rfl (lv_at hl 0 rfl) ?_
  refine lv_iconst (v := (-1 : Int32)) hx hb (dk DX1_init 95 rfl) (by decide) ?_
  refine k_iast (o := o + 11) (j := 9) C hR ⟨by omega, h11⟩ rfl (by decide) (dk DX1_init 96 rfl) (fun H locs hR => ?_)
  refine lv_iinc (v := (10 : Int32)) (lv' := [(1, .int (10 : Int32)), (0, .ref (G.2.1 + o))]) hx hb (dk DX1_init 97 rfl) hl (k := 0) rfl (by decide) (by decide) rfl (fun ls hl => ?_)
  refine lv_goto (tgt := 159) hx hb (dk DX1_init 98 rfl) (by decide) ?_
  refine lv_iload_n hx hb (dk DX1_init 89 rfl) rfl (lv_at hl 0 rfl) ?_
  refine lv_bipush (v := (72 : Int32)) hx hb (dk DX1_init 90 rfl) (by decide) ?_
  refine lv_icmp_ge (tgt := 178) hx hb (dk DX1_init 91 rfl) (by decide) (fun h => absurd h (by decide)) (fun _ => ?_)
  refine lv_aload_n hx hb (dk DX1_init 92 rfl) rfl (lv_at hl 1 rfl) ?_
  refine gX1_60 (o := o) (k := o + 11) C hR ⟨by omega, h0⟩ (by simp [mrOf, rMatch, rLaw, rBook]) (dk DX1_init 93 rfl) ?_
  refine lv_iload_n hx hb (dk DX1_init 94 rfl) rfl (lv_at hl 0 rfl) ?_
  refine lv_iconst (v := (-1 : Int32)) hx hb (dk DX1_init 95 rfl) (by decide) ?_
  refine k_iast (o := o + 11) (j := 10) C hR ⟨by omega, h11⟩ rfl (by decide) (dk DX1_init 96 rfl) (fun H locs hR => ?_)
  refine lv_iinc (v := (11 : Int32)) (lv' := [(1, .int (11 : Int32)), (0, .ref (G.2.1 + o))]) hx hb (dk DX1_init 97 rfl) hl (k := 0) rfl (by decide) (by decide) rfl (fun ls hl => ?_)
  refine lv_goto (tgt := 159) hx hb (dk DX1_init 98 rfl) (by decide) ?_
  refine lv_iload_n hx hb (dk DX1_init 89 rfl) rfl (lv_at hl 0 rfl) ?_
  refine lv_bipush (v := (72 : Int32)) hx hb (dk DX1_init 90 rfl) (by decide) ?_
  refine lv_icmp_ge (tgt := 178) hx hb (dk DX1_init 91 rfl) (by decide) (fun h => absurd h (by decide)) (fun _ => ?_)
  refine lv_aload_n hx hb (dk DX1_init 92 rfl) rfl (lv_at hl 1 rfl) ?_
  refine gX1_60 (o := o) (k := o + 11) C hR ⟨by omega, h0⟩ (by simp [mrOf, rMatch, rLaw, rBook]) (dk DX1_init 93 rfl) ?_
  refine lv_iload_n hx hb (dk DX1_init 94 rfl) rfl (lv_at hl 0 rfl) ?_
  refine lv_iconst (v := (-1 : Int32)) hx hb (dk DX1_init 95 rfl) (by decide) ?_
  refine k_iast (o := o + 11) (j := 11) C hR ⟨by omega, h11⟩ rfl (by decide) (dk DX1_init 96 rfl) (fun H locs hR => ?_)
  refine lv_iinc (v := (12 : Int32)) (lv' := [(1, .int (12 : Int32)), (0, .ref (G.2.1 + o))]) hx hb (dk DX1_init 97 rfl) hl (k := 0) rfl (by decide) (by decide) rfl (fun ls hl => ?_)
  refine lv_goto (tgt := 159) hx hb (dk DX1_init 98 rfl) (by decide) ?_
  refine lv_iload_n hx hb (dk DX1_init 89 rfl) rfl (lv_at hl 0 rfl) ?_
  refine lv_bipush (v := (72 : Int32)) hx hb (dk DX1_init 90 rfl) (by decide) ?_
  refine lv_icmp_ge (tgt := 178) hx hb (dk DX1_init 91 rfl) (by decide) (fun h => absurd h (by decide)) (fun _ => ?_)
  refine lv_aload_n hx hb (dk DX1_init 92 rfl) rfl (lv_at hl 1 rfl) ?_
  refine gX1_60 (o := o) (k := o + 11) C hR ⟨by omega, h0⟩ (by simp [mrOf, rMatch, rLaw, rBook]) (dk DX1_init 93 rfl) ?_
  refine lv_iload_n hx hb (dk DX1_init 94 rfl) rfl (lv_at hl 0 rfl) ?_
  refine lv_iconst (v := (-1 : Int32)) hx hb (dk DX1_init 95 rfl) (by decide) ?_
  refine k_iast (o := o + 11) (j := 12) C hR ⟨by omega, h11⟩ rfl (by decide) (dk DX1_init 96 rfl) (fun H locs hR => ?_)
  refine lv_iinc (v := (13 : Int32)) (lv' := [(1, .int (13 : Int32)), (0, .ref (G.2.1 + o))]) hx hb (dk DX1_init 97 rfl) hl (k := 0) rfl (by decide) (by decide) rfl (fun ls hl => ?_)
  refine lv_goto (tgt := 159) hx hb (dk DX1_init 98 rfl) (by decide) ?_
  refine lv_iload_n hx hb (dk DX1_init 89 rfl) rfl (lv_at hl 0 rfl) ?_
  refine lv_bipush (v := (72 : Int32)) hx hb (dk DX1_init 90 rfl) (by decide) ?_
  refine lv_icmp_ge (tgt := 178) hx hb (dk DX1_init 91 rfl) (by decide) (fun h => absurd h (by decide)) (fun _ => ?_)
  refine lv_aload_n hx hb (dk DX1_init 92 rfl) rfl (lv_at hl 1 rfl) ?_
  refine gX1_60 (o := o) (k := o + 11) C hR ⟨by omega, h0⟩ (by simp [mrOf, rMatch, rLaw, rBook]) (dk DX1_init 93 rfl) ?_
  refine lv_iload_n hx hb (dk DX1_init 94 rfl) rfl (lv_at hl 0 rfl) ?_
  refine lv_iconst (v := (-1 : Int32)) hx hb (dk DX1_init 95 rfl) (by decide) ?_
  refine k_iast (o := o + 11) (j := 13) C hR ⟨by omega, h11⟩ rfl (by decide) (dk DX1_init 96 rfl) (fun H locs hR => ?_)
  refine lv_iinc (v := (14 : Int32)) (lv' := [(1, .int (14 : Int32)), (0, .ref (G.2.1 + o))]) hx hb (dk DX1_init 97 rfl) hl (k := 0) rfl (by decide) (by decide) rfl (fun ls hl => ?_)
  refine lv_goto (tgt := 159) hx hb (dk DX1_init 98 rfl) (by decide) ?_
  refine lv_iload_n hx hb (dk DX1_init 89 rfl) rfl (lv_at hl 0 rfl) ?_
  refine lv_bipush (v := (72 : Int32)) hx hb (dk DX1_init 90 rfl) (by decide) ?_
  refine lv_icmp_ge (tgt := 178) hx hb (dk DX1_init 91 rfl) (by decide) (fun h => absurd h (by decide)) (fun _ => ?_)
  refine lv_aload_n hx hb (dk DX1_init 92 rfl) rfl (lv_at hl 1 rfl) ?_
  refine gX1_60 (o := o) (k := o + 11) C hR ⟨by omega, h0⟩ (by simp [mrOf, rMatch, rLaw, rBook]) (dk DX1_init 93 rfl) ?_
  refine lv_iload_n hx hb (dk DX1_init 94 rfl) rfl (lv_at hl 0 rfl) ?_
  refine lv_iconst (v := (-1 : Int32)) hx hb (dk DX1_init 95 rfl) (by decide) ?_
  refine k_iast (o := o + 11) (j := 14) C hR ⟨by omega, h11⟩ rfl (by decide) (dk DX1_init 96 rfl) (fun H locs hR => ?_)
  refine lv_iinc (v := (15 : Int32)) (lv' := [(1, .int (15 : Int32)), (0, .ref (G.2.1 + o))]) hx hb (dk DX1_init 97 rfl) hl (k := 0) rfl (by decide) (by decide) rfl (fun ls hl => ?_)
  refine lv_goto (tgt := 159) hx hb (dk DX1_init 98 rfl) (by decide) ?_
  refine lv_iload_n hx hb (dk DX1_init 89 rfl) rfl (lv_at hl 0 rfl) ?_
  refine lv_bipush (v := (72 : Int32)) hx hb (dk DX1_init 90 rfl) (by decide) ?_
  refine lv_icmp_ge (tgt := 178) hx hb (dk DX1_init 91 rfl) (by decide) (fun h => absurd h (by decide)) (fun _ => ?_)
  refine lv_aload_n hx hb (dk DX1_init 92 rfl) rfl (lv_at hl 1 rfl) ?_
  refine gX1_60 (o := o) (k := o + 11) C hR ⟨by omega, h0⟩ (by simp [mrOf, rMatch, rLaw, rBook]) (dk DX1_init 93 rfl) ?_
  refine lv_iload_n hx hb (dk DX1_init 94 rfl) rfl (lv_at hl 0 rfl) ?_
  refine lv_iconst (v := (-1 : Int32)) hx hb (dk DX1_init 95 rfl) (by decide) ?_
  refine k_iast (o := o + 11) (j := 15) C hR ⟨by omega, h11⟩ rfl (by decide) (dk DX1_init 96 rfl) (fun H locs hR => ?_)
  refine lv_iinc (v := (16 : Int32)) (lv' := [(1, .int (16 : Int32)), (0, .ref (G.2.1 + o))]) hx hb (dk DX1_init 97 rfl) hl (k := 0) rfl (by decide) (by decide) rfl (fun ls hl => ?_)
  refine lv_goto (tgt := 159) hx hb (dk DX1_init 98 rfl) (by decide) ?_
  refine lv_iload_n hx hb (dk DX1_init 89 rfl) rfl (lv_at hl 0 rfl) ?_
  refine lv_bipush (v := (72 : Int32)) hx hb (dk DX1_init 90 rfl) (by decide) ?_
  refine lv_icmp_ge (tgt := 178) hx hb (dk DX1_init 91 rfl) (by decide) (fun h => absurd h (by decide)) (fun _ => ?_)
  refine lv_aload_n hx hb (dk DX1_init 92 rfl) rfl (lv_at hl 1 rfl) ?_
  refine gX1_60 (o := o) (k := o + 11) C hR ⟨by omega, h0⟩ (by simp [mrOf, rMatch, rLaw, rBook]) (dk DX1_init 93 rfl) ?_
  refine lv_iload_n hx hb (dk DX1_init 94 rfl) rfl (lv_at hl 0 rfl) ?_
  refine lv_iconst (v := (-1 : Int32)) hx hb (dk DX1_init 95 rfl) (by decide) ?_
  refine k_iast (o := o + 11) (j := 16) C hR ⟨by omega, h11⟩ rfl (by decide) (dk DX1_init 96 rfl) (fun H locs hR => ?_)
  refine lv_iinc (v := (17 : Int32)) (lv' := [(1, .int (17 : Int32)), (0, .ref (G.2.1 + o))]) hx hb (dk DX1_init 97 rfl) hl (k := 0) rfl (by decide) (by decide) rfl (fun ls hl => ?_)
  refine lv_goto (tgt := 159) hx hb (dk DX1_init 98 rfl) (by decide) ?_
  refine lv_iload_n hx hb (dk DX1_init 89 rfl) rfl (lv_at hl 0 rfl) ?_
  refine lv_bipush (v := (72 : Int32)) hx hb (dk DX1_init 90 rfl) (by decide) ?_
  refine lv_icmp_ge (tgt := 178) hx hb (dk DX1_init 91 rfl) (by decide) (fun h => absurd h (by decide)) (fun _ => ?_)
  refine lv_aload_n hx hb (dk DX1_init 92 rfl) rfl (lv_at hl 1 rfl) ?_
  refine gX1_60 (o := o) (k := o + 11) C hR ⟨by omega, h0⟩ (by simp [mrOf, rMatch, rLaw, rBook]) (dk DX1_init 93 rfl) ?_
  refine lv_iload_n hx hb (dk DX1_init 94 rfl) rfl (lv_at hl 0 rfl) ?_
  refine lv_iconst (v := (-1 : Int32)) hx hb (dk DX1_init 95 rfl) (by decide) ?_
  refine k_iast (o := o + 11) (j := 17) C hR ⟨by omega, h11⟩ rfl (by decide) (dk DX1_init 96 rfl) (fun H locs hR => ?_)
  refine lv_iinc (v := (18 : Int32)) (lv' := [(1, .int (18 : Int32)), (0, .ref (G.2.1 + o))]) hx hb (dk DX1_init 97 rfl) hl (k := 0) rfl (by decide) (by decide) rfl (fun ls hl => ?_)
  refine lv_goto (tgt := 159) hx hb (dk DX1_init 98 rfl) (by decide) ?_
  refine lv_iload_n hx hb (dk DX1_init 89 rfl) rfl (lv_at hl 0 rfl) ?_
  refine lv_bipush (v := (72 : Int32)) hx hb (dk DX1_init 90 rfl) (by decide) ?_
  refine lv_icmp_ge (tgt := 178) hx hb (dk DX1_init 91 rfl) (by decide) (fun h => absurd h (by decide)) (fun _ => ?_)
  refine lv_aload_n hx hb (dk DX1_init 92 rfl) rfl (lv_at hl 1 rfl) ?_
  refine gX1_60 (o := o) (k := o + 11) C hR ⟨by omega, h0⟩ (by simp [mrOf, rMatch, rLaw, rBook]) (dk DX1_init 93 rfl) ?_
  refine lv_iload_n hx hb (dk DX1_init 94 rfl) rfl (lv_at hl 0 rfl) ?_
  refine lv_iconst (v := (-1 : Int32)) hx hb (dk DX1_init 95 rfl) (by decide) ?_
  refine k_iast (o := o + 11) (j := 18) C hR ⟨by omega, h11⟩ rfl (by decide) (dk DX1_init 96 rfl) (fun H locs hR => ?_)
  refine lv_iinc (v := (19 : Int32)) (lv' := [(1, .int (19 : Int32)), (0, .ref (G.2.1 + o))]) hx hb (dk DX1_init 97 rfl) hl (k := 0) rfl (by decide) (by decide) rfl (fun ls hl => ?_)
  refine lv_goto (tgt := 159) hx hb (dk DX1_init 98 rfl) (by decide) ?_
  refine lv_iload_n hx hb (dk DX1_init 89 rfl) rfl (lv_at hl 0 rfl) ?_
  refine lv_bipush (v := (72 : Int32)) hx hb (dk DX1_init 90 rfl) (by decide) ?_
  refine lv_icmp_ge (tgt := 178) hx hb (dk DX1_init 91 rfl) (by decide) (fun h => absurd h (by decide)) (fun _ => ?_)
  refine lv_aload_n hx hb (dk DX1_init 92 rfl) rfl (lv_at hl 1 rfl) ?_
  refine gX1_60 (o := o) (k := o + 11) C hR ⟨by omega, h0⟩ (by simp [mrOf, rMatch, rLaw, rBook]) (dk DX1_init 93 rfl) ?_
  refine lv_iload_n hx hb (dk DX1_init 94 rfl) rfl (lv_at hl 0 rfl) ?_
  refine lv_iconst (v := (-1 : Int32)) hx hb (dk DX1_init 95 rfl) (by decide) ?_
  refine k_iast (o := o + 11) (j := 19) C hR ⟨by omega, h11⟩ rfl (by decide) (dk DX1_init 96 rfl) (fun H locs hR => ?_)
  refine lv_iinc (v := (20 : Int32)) (lv' := [(1, .int (20 : Int32)), (0, .ref (G.2.1 + o))]) hx hb (dk DX1_init 97 rfl) hl (k := 0) rfl (by decide) (by decide) rfl (fun ls hl => ?_)
  refine lv_goto (tgt := 159) hx hb (dk DX1_init 98 rfl) (by decide) ?_
  refine lv_iload_n hx hb (dk DX1_init 89 rfl) rfl (lv_at hl 0 rfl) ?_
  refine lv_bipush (v := (72 : Int32)) hx hb (dk DX1_init 90 rfl) (by decide) ?_
  refine lv_icmp_ge (tgt := 178) hx hb (dk DX1_init 91 rfl) (by decide) (fun h => absurd h (by decide)) (fun _ => ?_)
  refine lv_aload_n hx hb (dk DX1_init 92 rfl) rfl (lv_at hl 1 rfl) ?_
  refine gX1_60 (o := o) (k := o + 11) C hR ⟨by omega, h0⟩ (by simp [mrOf, rMatch, rLaw, rBook]) (dk DX1_init 93 rfl) ?_
  refine lv_iload_n hx hb (dk DX1_init 94 rfl) rfl (lv_at hl 0 rfl) ?_
  refine lv_iconst (v := (-1 : Int32)) hx hb (dk DX1_init 95 rfl) (by decide) ?_
  refine k_iast (o := o + 11) (j := 20) C hR ⟨by omega, h11⟩ rfl (by decide) (dk DX1_init 96 rfl) (fun H locs hR => ?_)
  refine lv_iinc (v := (21 : Int32)) (lv' := [(1, .int (21 : Int32)), (0, .ref (G.2.1 + o))]) hx hb (dk DX1_init 97 rfl) hl (k := 0) rfl (by decide) (by decide) rfl (fun ls hl => ?_)
  refine lv_goto (tgt := 159) hx hb (dk DX1_init 98 rfl) (by decide) ?_
  refine lv_iload_n hx hb (dk DX1_init 89 rfl) rfl (lv_at hl 0 rfl) ?_
  refine lv_bipush (v := (72 : Int32)) hx hb (dk DX1_init 90 rfl) (by decide) ?_
  refine lv_icmp_ge (tgt := 178) hx hb (dk DX1_init 91 rfl) (by decide) (fun h => absurd h (by decide)) (fun _ => ?_)
  refine lv_aload_n hx hb (dk DX1_init 92 rfl) rfl (lv_at hl 1 rfl) ?_
  refine gX1_60 (o := o) (k := o + 11) C hR ⟨by omega, h0⟩ (by simp [mrOf, rMatch, rLaw, rBook]) (dk DX1_init 93 rfl) ?_
  refine lv_iload_n hx hb (dk DX1_init 94 rfl) rfl (lv_at hl 0 rfl) ?_
  refine lv_iconst (v := (-1 : Int32)) hx hb (dk DX1_init 95 rfl) (by decide) ?_
  refine k_iast (o := o + 11) (j := 21) C hR ⟨by omega, h11⟩ rfl (by decide) (dk DX1_init 96 rfl) (fun H locs hR => ?_)
  refine lv_iinc (v := (22 : Int32)) (lv' := [(1, .int (22 : Int32)), (0, .ref (G.2.1 + o))]) hx hb (dk DX1_init 97 rfl) hl (k := 0) rfl (by decide) (by decide) rfl (fun ls hl => ?_)
  refine lv_goto (tgt := 159) hx hb (dk DX1_init 98 rfl) (by decide) ?_
  refine lv_iload_n hx hb (dk DX1_init 89 rfl) rfl (lv_at hl 0 rfl) ?_
  refine lv_bipush (v := (72 : Int32)) hx hb (dk DX1_init 90 rfl) (by decide) ?_
  refine lv_icmp_ge (tgt := 178) hx hb (dk DX1_init 91 rfl) (by decide) (fun h => absurd h (by decide)) (fun _ => ?_)
  refine lv_aload_n hx hb (dk DX1_init 92 rfl) rfl (lv_at hl 1 rfl) ?_
  refine gX1_60 (o := o) (k := o + 11) C hR ⟨by omega, h0⟩ (by simp [mrOf, rMatch, rLaw, rBook]) (dk DX1_init 93 rfl) ?_
  refine lv_iload_n hx hb (dk DX1_init 94 rfl) rfl (lv_at hl 0 rfl) ?_
  refine lv_iconst (v := (-1 : Int32)) hx hb (dk DX1_init 95 rfl) (by decide) ?_
  refine k_iast (o := o + 11) (j := 22) C hR ⟨by omega, h11⟩ rfl (by decide) (dk DX1_init 96 rfl) (fun H locs hR => ?_)
  refine lv_iinc (v := (23 : Int32)) (lv' := [(1, .int (23 : Int32)), (0, .ref (G.2.1 + o))]) hx hb (dk DX1_init 97 rfl) hl (k := 0) rfl (by decide) (by decide) rfl (fun ls hl => ?_)
  refine lv_goto (tgt := 159) hx hb (dk DX1_init 98 rfl) (by decide) ?_
  refine lv_iload_n hx hb (dk DX1_init 89 rfl) rfl (lv_at hl 0 rfl) ?_
  refine lv_bipush (v := (72 : Int32)) hx hb (dk DX1_init 90 rfl) (by decide) ?_
  refine lv_icmp_ge (tgt := 178) hx hb (dk DX1_init 91 rfl) (by decide) (fun h => absurd h (by decide)) (fun _ => ?_)
  refine lv_aload_n hx hb (dk DX1_init 92 rfl) rfl (lv_at hl 1 rfl) ?_
  refine gX1_60 (o := o) (k := o + 11) C hR ⟨by omega, h0⟩ (by simp [mrOf, rMatch, rLaw, rBook]) (dk DX1_init 93 rfl) ?_
  refine lv_iload_n hx hb (dk DX1_init 94 rfl) rfl (lv_at hl 0 rfl) ?_
  refine lv_iconst (v := (-1 : Int32)) hx hb (dk DX1_init 95 rfl) (by decide) ?_
  refine k_iast (o := o + 11) (j := 23) C hR ⟨by omega, h11⟩ rfl (by decide) (dk DX1_init 96 rfl) (fun H locs hR => ?_)
  refine lv_iinc (v := (24 : Int32)) (lv' := [(1, .int (24 : Int32)), (0, .ref (G.2.1 + o))]) hx hb (dk DX1_init 97 rfl) hl (k := 0) rfl (by decide) (by decide) rfl (fun ls hl => ?_)
  refine lv_goto (tgt := 159) hx hb (dk DX1_init 98 rfl) (by decide) ?_
  refine lv_iload_n hx hb (dk DX1_init 89 rfl) rfl (lv_at hl 0 rfl) ?_
  refine lv_bipush (v := (72 : Int32)) hx hb (dk DX1_init 90 rfl) (by decide) ?_
  refine lv_icmp_ge (tgt := 178) hx hb (dk DX1_init 91 rfl) (by decide) (fun h => absurd h (by decide)) (fun _ => ?_)
  refine lv_aload_n hx hb (dk DX1_init 92 rfl) rfl (lv_at hl 1 rfl) ?_
  refine gX1_60 (o := o) (k := o + 11) C hR ⟨by omega, h0⟩ (by simp [mrOf, rMatch, rLaw, rBook]) (dk DX1_init 93 rfl) ?_
  refine lv_iload_n hx hb (dk DX1_init 94 rfl) rfl (lv_at hl 0 rfl) ?_
  refine lv_iconst (v := (-1 : Int32)) hx hb (dk DX1_init 95 rfl) (by decide) ?_
  refine k_iast (o := o + 11) (j := 24) C hR ⟨by omega, h11⟩ rfl (by decide) (dk DX1_init 96 rfl) (fun H locs hR => ?_)
  refine lv_iinc (v := (25 : Int32)) (lv' := [(1, .int (25 : Int32)), (0, .ref (G.2.1 + o))]) hx hb (dk DX1_init 97 rfl) hl (k := 0) rfl (by decide) (by decide) rfl (fun ls hl => ?_)
  refine lv_goto (tgt := 159) hx hb (dk DX1_init 98 rfl) (by decide) ?_
  refine lv_iload_n hx hb (dk DX1_init 89 rfl) rfl (lv_at hl 0 rfl) ?_
  refine lv_bipush (v := (72 : Int32)) hx hb (dk DX1_init 90 rfl) (by decide) ?_
  refine lv_icmp_ge (tgt := 178) hx hb (dk DX1_init 91 rfl) (by decide) (fun h => absurd h (by decide)) (fun _ => ?_)
  refine lv_aload_n hx hb (dk DX1_init 92 rfl) rfl (lv_at hl 1 rfl) ?_
  refine gX1_60 (o := o) (k := o + 11) C hR ⟨by omega, h0⟩ (by simp [mrOf, rMatch, rLaw, rBook]) (dk DX1_init 93 rfl) ?_
  refine lv_iload_n hx hb (dk DX1_init 94 rfl) rfl (lv_at hl 0 rfl) ?_
  refine lv_iconst (v := (-1 : Int32)) hx hb (dk DX1_init 95 rfl) (by decide) ?_
  refine k_iast (o := o + 11) (j := 25) C hR ⟨by omega, h11⟩ rfl (by decide) (dk DX1_init 96 rfl) (fun H locs hR => ?_)
  refine lv_iinc (v := (26 : Int32)) (lv' := [(1, .int (26 : Int32)), (0, .ref (G.2.1 + o))]) hx hb (dk DX1_init 97 rfl) hl (k := 0) rfl (by decide) (by decide) rfl (fun ls hl => ?_)
  refine lv_goto (tgt := 159) hx hb (dk DX1_init 98 rfl) (by decide) ?_
  refine lv_iload_n hx hb (dk DX1_init 89 rfl) rfl (lv_at hl 0 rfl) ?_
  refine lv_bipush (v := (72 : Int32)) hx hb (dk DX1_init 90 rfl) (by decide) ?_
  refine lv_icmp_ge (tgt := 178) hx hb (dk DX1_init 91 rfl) (by decide) (fun h => absurd h (by decide)) (fun _ => ?_)
  refine lv_aload_n hx hb (dk DX1_init 92 rfl) rfl (lv_at hl 1 rfl) ?_
  refine gX1_60 (o := o) (k := o + 11) C hR ⟨by omega, h0⟩ (by simp [mrOf, rMatch, rLaw, rBook]) (dk DX1_init 93 rfl) ?_
  refine lv_iload_n hx hb (dk DX1_init 94 rfl) rfl (lv_at hl 0 rfl) ?_
  refine lv_iconst (v := (-1 : Int32)) hx hb (dk DX1_init 95 rfl) (by decide) ?_
  refine k_iast (o := o + 11) (j := 26) C hR ⟨by omega, h11⟩ rfl (by decide) (dk DX1_init 96 rfl) (fun H locs hR => ?_)
  refine lv_iinc (v := (27 : Int32)) (lv' := [(1, .int (27 : Int32)), (0, .ref (G.2.1 + o))]) hx hb (dk DX1_init 97 rfl) hl (k := 0) rfl (by decide) (by decide) rfl (fun ls hl => ?_)
  refine lv_goto (tgt := 159) hx hb (dk DX1_init 98 rfl) (by decide) ?_
  refine lv_iload_n hx hb (dk DX1_init 89 rfl) rfl (lv_at hl 0 rfl) ?_
  refine lv_bipush (v := (72 : Int32)) hx hb (dk DX1_init 90 rfl) (by decide) ?_
  refine lv_icmp_ge (tgt := 178) hx hb (dk DX1_init 91 rfl) (by decide) (fun h => absurd h (by decide)) (fun _ => ?_)
  refine lv_aload_n hx hb (dk DX1_init 92 rfl) rfl (lv_at hl 1 rfl) ?_
  refine gX1_60 (o := o) (k := o + 11) C hR ⟨by omega, h0⟩ (by simp [mrOf, rMatch, rLaw, rBook]) (dk DX1_init 93 rfl) ?_
  refine lv_iload_n hx hb (dk DX1_init 94 rfl) rfl (lv_at hl 0 rfl) ?_
  refine lv_iconst (v := (-1 : Int32)) hx hb (dk DX1_init 95 rfl) (by decide) ?_
  refine k_iast (o := o + 11) (j := 27) C hR ⟨by omega, h11⟩ rfl (by decide) (dk DX1_init 96 rfl) (fun H locs hR => ?_)
  refine lv_iinc (v := (28 : Int32)) (lv' := [(1, .int (28 : Int32)), (0, .ref (G.2.1 + o))]) hx hb (dk DX1_init 97 rfl) hl (k := 0) rfl (by decide) (by decide) rfl (fun ls hl => ?_)
  refine lv_goto (tgt := 159) hx hb (dk DX1_init 98 rfl) (by decide) ?_
  refine lv_iload_n hx hb (dk DX1_init 89 rfl) rfl (lv_at hl 0 rfl) ?_
  refine lv_bipush (v := (72 : Int32)) hx hb (dk DX1_init 90 rfl) (by decide) ?_
  refine lv_icmp_ge (tgt := 178) hx hb (dk DX1_init 91 rfl) (by decide) (fun h => absurd h (by decide)) (fun _ => ?_)
  refine lv_aload_n hx hb (dk DX1_init 92 rfl) rfl (lv_at hl 1 rfl) ?_
  refine gX1_60 (o := o) (k := o + 11) C hR ⟨by omega, h0⟩ (by simp [mrOf, rMatch, rLaw, rBook]) (dk DX1_init 93 rfl) ?_
  refine lv_iload_n hx hb (dk DX1_init 94 rfl) rfl (lv_at hl 0 rfl) ?_
  refine lv_iconst (v := (-1 : Int32)) hx hb (dk DX1_init 95 rfl) (by decide) ?_
  refine k_iast (o := o + 11) (j := 28) C hR ⟨by omega, h11⟩ rfl (by decide) (dk DX1_init 96 rfl) (fun H locs hR => ?_)
  refine lv_iinc (v := (29 : Int32)) (lv' := [(1, .int (29 : Int32)), (0, .ref (G.2.1 + o))]) hx hb (dk DX1_init 97 rfl) hl (k := 0) rfl (by decide) (by decide) rfl (fun ls hl => ?_)
  refine lv_goto (tgt := 159) hx hb (dk DX1_init 98 rfl) (by decide) ?_
  refine lv_iload_n hx hb (dk DX1_init 89 rfl) rfl (lv_at hl 0 rfl) ?_
  refine lv_bipush (v := (72 : Int32)) hx hb (dk DX1_init 90 rfl) (by decide) ?_
  refine lv_icmp_ge (tgt := 178) hx hb (dk DX1_init 91 rfl) (by decide) (fun h => absurd h (by decide)) (fun _ => ?_)
  refine lv_aload_n hx hb (dk DX1_init 92 rfl) rfl (lv_at hl 1 rfl) ?_
  refine gX1_60 (o := o) (k := o + 11) C hR ⟨by omega, h0⟩ (by simp [mrOf, rMatch, rLaw, rBook]) (dk DX1_init 93 rfl) ?_
  refine lv_iload_n hx hb (dk DX1_init 94 rfl) rfl (lv_at hl 0 rfl) ?_
  refine lv_iconst (v := (-1 : Int32)) hx hb (dk DX1_init 95 rfl) (by decide) ?_
  refine k_iast (o := o + 11) (j := 29) C hR ⟨by omega, h11⟩ rfl (by decide) (dk DX1_init 96 rfl) (fun H locs hR => ?_)
  refine lv_iinc (v := (30 : Int32)) (lv' := [(1, .int (30 : Int32)), (0, .ref (G.2.1 + o))]) hx hb (dk DX1_init 97 rfl) hl (k := 0) rfl (by decide) (by decide) rfl (fun ls hl => ?_)
  refine lv_goto (tgt := 159) hx hb (dk DX1_init 98 rfl) (by decide) ?_
  refine lv_iload_n hx hb (dk DX1_init 89 rfl) rfl (lv_at hl 0 rfl) ?_
  refine lv_bipush (v := (72 : Int32)) hx hb (dk DX1_init 90 rfl) (by decide) ?_
  refine lv_icmp_ge (tgt := 178) hx hb (dk DX1_init 91 rfl) (by decide) (fun h => absurd h (by decide)) (fun _ => ?_)
  refine lv_aload_n hx hb (dk DX1_init 92 rfl) rfl (lv_at hl 1 rfl) ?_
  refine gX1_60 (o := o) (k := o + 11) C hR ⟨by omega, h0⟩ (by simp [mrOf, rMatch, rLaw, rBook]) (dk DX1_init 93 rfl) ?_
  refine lv_iload_n hx hb (dk DX1_init 94 rfl) rfl (lv_at hl 0 rfl) ?_
  refine lv_iconst (v := (-1 : Int32)) hx hb (dk DX1_init 95 rfl) (by decide) ?_
  refine k_iast (o := o + 11) (j := 30) C hR ⟨by omega, h11⟩ rfl (by decide) (dk DX1_init 96 rfl) (fun H locs hR => ?_)
  refine lv_iinc (v := (31 : Int32)) (lv' := [(1, .int (31 : Int32)), (0, .ref (G.2.1 + o))]) hx hb (dk DX1_init 97 rfl) hl (k := 0) rfl (by decide) (by decide) rfl (fun ls hl => ?_)
  refine lv_goto (tgt := 159) hx hb (dk DX1_init 98 rfl) (by decide) ?_
  refine lv_iload_n hx hb (dk DX1_init 89 rfl) rfl (lv_at hl 0 rfl) ?_
  refine lv_bipush (v := (72 : Int32)) hx hb (dk DX1_init 90 rfl) (by decide) ?_
  refine lv_icmp_ge (tgt := 178) hx hb (dk DX1_init 91 rfl) (by decide) (fun h => absurd h (by decide)) (fun _ => ?_)
  refine lv_aload_n hx hb (dk DX1_init 92 rfl) rfl (lv_at hl 1 rfl) ?_
  refine gX1_60 (o := o) (k := o + 11) C hR ⟨by omega, h0⟩ (by simp [mrOf, rMatch, rLaw, rBook]) (dk DX1_init 93 rfl) ?_
  refine lv_iload_n hx hb (dk DX1_init 94 rfl) rfl (lv_at hl 0 rfl) ?_
  refine lv_iconst (v := (-1 : Int32)) hx hb (dk DX1_init 95 rfl) (by decide) ?_
  refine k_iast (o := o + 11) (j := 31) C hR ⟨by omega, h11⟩ rfl (by decide) (dk DX1_init 96 rfl) (fun H locs hR => ?_)
  refine lv_iinc (v := (32 : Int32)) (lv' := [(1, .int (32 : Int32)), (0, .ref (G.2.1 + o))]) hx hb (dk DX1_init 97 rfl) hl (k := 0) rfl (by decide) (by decide) rfl (fun ls hl => ?_)
  refine lv_goto (tgt := 159) hx hb (dk DX1_init 98 rfl) (by decide) ?_
  refine lv_iload_n hx hb (dk DX1_init 89 rfl) rfl (lv_at hl 0 rfl) ?_
  refine lv_bipush (v := (72 : Int32)) hx hb (dk DX1_init 90 rfl) (by decide) ?_
  refine lv_icmp_ge (tgt := 178) hx hb (dk DX1_init 91 rfl) (by decide) (fun h => absurd h (by decide)) (fun _ => ?_)
  refine lv_aload_n hx hb (dk DX1_init 92 rfl) rfl (lv_at hl 1 rfl) ?_
  refine gX1_60 (o := o) (k := o + 11) C hR ⟨by omega, h0⟩ (by simp [mrOf, rMatch, rLaw, rBook]) (dk DX1_init 93 rfl) ?_
  refine lv_iload_n hx hb (dk DX1_init 94 rfl) rfl (lv_at hl 0 rfl) ?_
  refine lv_iconst (v := (-1 : Int32)) hx hb (dk DX1_init 95 rfl) (by decide) ?_
  refine k_iast (o := o + 11) (j := 32) C hR ⟨by omega, h11⟩ rfl (by decide) (dk DX1_init 96 rfl) (fun H locs hR => ?_)
  refine lv_iinc (v := (33 : Int32)) (lv' := [(1, .int (33 : Int32)), (0, .ref (G.2.1 + o))]) hx hb (dk DX1_init 97 rfl) hl (k := 0) rfl (by decide) (by decide) rfl (fun ls hl => ?_)
  refine lv_goto (tgt := 159) hx hb (dk DX1_init 98 rfl) (by decide) ?_
  refine lv_iload_n hx hb (dk DX1_init 89 rfl) rfl (lv_at hl 0 rfl) ?_
  refine lv_bipush (v := (72 : Int32)) hx hb (dk DX1_init 90 rfl) (by decide) ?_
  refine lv_icmp_ge (tgt := 178) hx hb (dk DX1_init 91 rfl) (by decide) (fun h => absurd h (by decide)) (fun _ => ?_)
  refine lv_aload_n hx hb (dk DX1_init 92 rfl) rfl (lv_at hl 1 rfl) ?_
  refine gX1_60 (o := o) (k := o + 11) C hR ⟨by omega, h0⟩ (by simp [mrOf, rMatch, rLaw, rBook]) (dk DX1_init 93 rfl) ?_
  refine lv_iload_n hx hb (dk DX1_init 94 rfl) rfl (lv_at hl 0 rfl) ?_
  refine lv_iconst (v := (-1 : Int32)) hx hb (dk DX1_init 95 rfl) (by decide) ?_
  refine k_iast (o := o + 11) (j := 33) C hR ⟨by omega, h11⟩ rfl (by decide) (dk DX1_init 96 rfl) (fun H locs hR => ?_)
  refine lv_iinc (v := (34 : Int32)) (lv' := [(1, .int (34 : Int32)), (0, .ref (G.2.1 + o))]) hx hb (dk DX1_init 97 rfl) hl (k := 0) rfl (by decide) (by decide) rfl (fun ls hl => ?_)
  refine lv_goto (tgt := 159) hx hb (dk DX1_init 98 rfl) (by decide) ?_
  refine lv_iload_n hx hb (dk DX1_init 89 rfl) rfl (lv_at hl 0 rfl) ?_
  refine lv_bipush (v := (72 : Int32)) hx hb (dk DX1_init 90 rfl) (by decide) ?_
  refine lv_icmp_ge (tgt := 178) hx hb (dk DX1_init 91 rfl) (by decide) (fun h => absurd h (by decide)) (fun _ => ?_)
  refine lv_aload_n hx hb (dk DX1_init 92 rfl) rfl (lv_at hl 1 rfl) ?_
  refine gX1_60 (o := o) (k := o + 11) C hR ⟨by omega, h0⟩ (by simp [mrOf, rMatch, rLaw, rBook]) (dk DX1_init 93 rfl) ?_
  refine lv_iload_n hx hb (dk DX1_init 94 rfl) rfl (lv_at hl 0 rfl) ?_
  refine lv_iconst (v := (-1 : Int32)) hx hb (dk DX1_init 95 rfl) (by decide) ?_
  refine k_iast (o := o + 11) (j := 34) C hR ⟨by omega, h11⟩ rfl (by decide) (dk DX1_init 96 rfl) (fun H locs hR => ?_)
  refine lv_iinc (v := (35 : Int32)) (lv' := [(1, .int (35 : Int32)), (0, .ref (G.2.1 + o))]) hx hb (dk DX1_init 97 rfl) hl (k := 0) rfl (by decide) (by decide) rfl (fun ls hl => ?_)
  refine lv_goto (tgt := 159) hx hb (dk DX1_init 98 rfl) (by decide) ?_
  refine lv_iload_n hx hb (dk DX1_init 89 rfl) rfl (lv_at hl 0 rfl) ?_
  refine lv_bipush (v := (72 : Int32)) hx hb (dk DX1_init 90 rfl) (by decide) ?_
  refine lv_icmp_ge (tgt := 178) hx hb (dk DX1_init 91 rfl) (by decide) (fun h => absurd h (by decide)) (fun _ => ?_)
  refine lv_aload_n hx hb (dk DX1_init 92 rfl) rfl (lv_at hl 1 rfl) ?_
  refine gX1_60 (o := o) (k := o + 11) C hR ⟨by omega, h0⟩ (by simp [mrOf, rMatch, rLaw, rBook]) (dk DX1_init 93 rfl) ?_
  refine lv_iload_n hx hb (dk DX1_init 94 rfl) rfl (lv_at hl 0 rfl) ?_
  refine lv_iconst (v := (-1 : Int32)) hx hb (dk DX1_init 95 rfl) (by decide) ?_
  refine k_iast (o := o + 11) (j := 35) C hR ⟨by omega, h11⟩ rfl (by decide) (dk DX1_init 96 rfl) (fun H locs hR => ?_)
  refine lv_iinc (v := (36 : Int32)) (lv' := [(1, .int (36 : Int32)), (0, .ref (G.2.1 + o))]) hx hb (dk DX1_init 97 rfl) hl (k := 0) rfl (by decide) (by decide) rfl (fun ls hl => ?_)
  refine lv_goto (tgt := 159) hx hb (dk DX1_init 98 rfl) (by decide) ?_
  refine lv_iload_n hx hb (dk DX1_init 89 rfl) rfl (lv_at hl 0 rfl) ?_
  refine lv_bipush (v := (72 : Int32)) hx hb (dk DX1_init 90 rfl) (by decide) ?_
  refine lv_icmp_ge (tgt := 178) hx hb (dk DX1_init 91 rfl) (by decide) (fun h => absurd h (by decide)) (fun _ => ?_)
  refine lv_aload_n hx hb (dk DX1_init 92 rfl) rfl (lv_at hl 1 rfl) ?_
  refine gX1_60 (o := o) (k := o + 11) C hR ⟨by omega, h0⟩ (by simp [mrOf, rMatch, rLaw, rBook]) (dk DX1_init 93 rfl) ?_
  refine lv_iload_n hx hb (dk DX1_init 94 rfl) rfl (lv_at hl 0 rfl) ?_
  refine lv_iconst (v := (-1 : Int32)) hx hb (dk DX1_init 95 rfl) (by decide) ?_
  refine k_iast (o := o + 11) (j := 36) C hR ⟨by omega, h11⟩ rfl (by decide) (dk DX1_init 96 rfl) (fun H locs hR => ?_)
  refine lv_iinc (v := (37 : Int32)) (lv' := [(1, .int (37 : Int32)), (0, .ref (G.2.1 + o))]) hx hb (dk DX1_init 97 rfl) hl (k := 0) rfl (by decide) (by decide) rfl (fun ls hl => ?_)
  refine lv_goto (tgt := 159) hx hb (dk DX1_init 98 rfl) (by decide) ?_
  refine lv_iload_n hx hb (dk DX1_init 89 rfl) rfl (lv_at hl 0 rfl) ?_
  refine lv_bipush (v := (72 : Int32)) hx hb (dk DX1_init 90 rfl) (by decide) ?_
  refine lv_icmp_ge (tgt := 178) hx hb (dk DX1_init 91 rfl) (by decide) (fun h => absurd h (by decide)) (fun _ => ?_)
  refine lv_aload_n hx hb (dk DX1_init 92 rfl) rfl (lv_at hl 1 rfl) ?_
  refine gX1_60 (o := o) (k := o + 11) C hR ⟨by omega, h0⟩ (by simp [mrOf, rMatch, rLaw, rBook]) (dk DX1_init 93 rfl) ?_
  refine lv_iload_n hx hb (dk DX1_init 94 rfl) rfl (lv_at hl 0 rfl) ?_
  refine lv_iconst (v := (-1 : Int32)) hx hb (dk DX1_init 95 rfl) (by decide) ?_
  refine k_iast (o := o + 11) (j := 37) C hR ⟨by omega, h11⟩ rfl (by decide) (dk DX1_init 96 rfl) (fun H locs hR => ?_)
  refine lv_iinc (v := (38 : Int32)) (lv' := [(1, .int (38 : Int32)), (0, .ref (G.2.1 + o))]) hx hb (dk DX1_init 97 rfl) hl (k := 0) rfl (by decide) (by decide) rfl (fun ls hl => ?_)
  refine lv_goto (tgt := 159) hx hb (dk DX1_init 98 rfl) (by decide) ?_
  refine lv_iload_n hx hb (dk DX1_init 89 rfl) rfl (lv_at hl 0 rfl) ?_
  refine lv_bipush (v := (72 : Int32)) hx hb (dk DX1_init 90 rfl) (by decide) ?_
  refine lv_icmp_ge (tgt := 178) hx hb (dk DX1_init 91 rfl) (by decide) (fun h => absurd h (by decide)) (fun _ => ?_)
  refine lv_aload_n hx hb (dk DX1_init 92 rfl) rfl (lv_at hl 1 rfl) ?_
  refine gX1_60 (o := o) (k := o + 11) C hR ⟨by omega, h0⟩ (by simp [mrOf, rMatch, rLaw, rBook]) (dk DX1_init 93 rfl) ?_
  refine lv_iload_n hx hb (dk DX1_init 94 rfl) rfl (lv_at hl 0 rfl) ?_
  refine lv_iconst (v := (-1 : Int32)) hx hb (dk DX1_init 95 rfl) (by decide) ?_
  refine k_iast (o := o + 11) (j := 38) C hR ⟨by omega, h11⟩ rfl (by decide) (dk DX1_init 96 rfl) (fun H locs hR => ?_)
  refine lv_iinc (v := (39 : Int32)) (lv' := [(1, .int (39 : Int32)), (0, .ref (G.2.1 + o))]) hx hb (dk DX1_init 97 rfl) hl (k := 0) rfl (by decide) (by decide) rfl (fun ls hl => ?_)
  refine lv_goto (tgt := 159) hx hb (dk DX1_init 98 rfl) (by decide) ?_
  refine lv_iload_n hx hb (dk DX1_init 89 rfl) rfl (lv_at hl 0 rfl) ?_
  refine lv_bipush (v := (72 : Int32)) hx hb (dk DX1_init 90 rfl) (by decide) ?_
  refine lv_icmp_ge (tgt := 178) hx hb (dk DX1_init 91 rfl) (by decide) (fun h => absurd h (by decide)) (fun _ => ?_)
  refine lv_aload_n hx hb (dk DX1_init 92 rfl) rfl (lv_at hl 1 rfl) ?_
  refine gX1_60 (o := o) (k := o + 11) C hR ⟨by omega, h0⟩ (by simp [mrOf, rMatch, rLaw, rBook]) (dk DX1_init 93 rfl) ?_
  refine lv_iload_n hx hb (dk DX1_init 94 rfl) rfl (lv_at hl 0 rfl) ?_
  refine lv_iconst (v := (-1 : Int32)) hx hb (dk DX1_init 95 rfl) (by decide) ?_
  refine k_iast (o := o + 11) (j := 39) C hR ⟨by omega, h11⟩ rfl (by decide) (dk DX1_init 96 rfl) (fun H locs hR => ?_)
  refine lv_iinc (v := (40 : Int32)) (lv' := [(1, .int (40 : Int32)), (0, .ref (G.2.1 + o))]) hx hb (dk DX1_init 97 rfl) hl (k := 0) rfl (by decide) (by decide) rfl (fun ls hl => ?_)
  refine lv_goto (tgt := 159) hx hb (dk DX1_init 98 rfl) (by decide) ?_
  refine lv_iload_n hx hb (dk DX1_init 89 rfl) rfl (lv_at hl 0 rfl) ?_
  refine lv_bipush (v := (72 : Int32)) hx hb (dk DX1_init 90 rfl) (by decide) ?_
  refine lv_icmp_ge (tgt := 178) hx hb (dk DX1_init 91 rfl) (by decide) (fun h => absurd h (by decide)) (fun _ => ?_)
  refine lv_aload_n hx hb (dk DX1_init 92 rfl) rfl (lv_at hl 1 rfl) ?_
  refine gX1_60 (o := o) (k := o + 11) C hR ⟨by omega, h0⟩ (by simp [mrOf, rMatch, rLaw, rBook]) (dk DX1_init 93 rfl) ?_
  refine lv_iload_n hx hb (dk DX1_init 94 rfl) rfl (lv_at hl 0 rfl) ?_
  refine lv_iconst (v := (-1 : Int32)) hx hb (dk DX1_init 95 rfl) (by decide) ?_
  refine k_iast (o := o + 11) (j := 40) C hR ⟨by omega, h11⟩ rfl (by decide) (dk DX1_init 96 rfl) (fun H locs hR => ?_)
  refine lv_iinc (v := (41 : Int32)) (lv' := [(1, .int (41 : Int32)), (0, .ref (G.2.1 + o))]) hx hb (dk DX1_init 97 rfl) hl (k := 0) rfl (by decide) (by decide) rfl (fun ls hl => ?_)
  refine lv_goto (tgt := 159) hx hb (dk DX1_init 98 rfl) (by decide) ?_
  refine lv_iload_n hx hb (dk DX1_init 89 rfl) rfl (lv_at hl 0 rfl) ?_
  refine lv_bipush (v := (72 : Int32)) hx hb (dk DX1_init 90 rfl) (by decide) ?_
  refine lv_icmp_ge (tgt := 178) hx hb (dk DX1_init 91 rfl) (by decide) (fun h => absurd h (by decide)) (fun _ => ?_)
  refine lv_aload_n hx hb (dk DX1_init 92 rfl) rfl (lv_at hl 1 rfl) ?_
  refine gX1_60 (o := o) (k := o + 11) C hR ⟨by omega, h0⟩ (by simp [mrOf, rMatch, rLaw, rBook]) (dk DX1_init 93 rfl) ?_
  refine lv_iload_n hx hb (dk DX1_init 94 rfl) rfl (lv_at hl 0 rfl) ?_
  refine lv_iconst (v := (-1 : Int32)) hx hb (dk DX1_init 95 rfl) (by decide) ?_
  refine k_iast (o := o + 11) (j := 41) C hR ⟨by omega, h11⟩ rfl (by decide) (dk DX1_init 96 rfl) (fun H locs hR => ?_)
  refine lv_iinc (v := (42 : Int32)) (lv' := [(1, .int (42 : Int32)), (0, .ref (G.2.1 + o))]) hx hb (dk DX1_init 97 rfl) hl (k := 0) rfl (by decide) (by decide) rfl (fun ls hl => ?_)
  refine lv_goto (tgt := 159) hx hb (dk DX1_init 98 rfl) (by decide) ?_
  refine lv_iload_n hx hb (dk DX1_init 89 rfl) rfl (lv_at hl 0 rfl) ?_
  refine lv_bipush (v := (72 : Int32)) hx hb (dk DX1_init 90 rfl) (by decide) ?_
  refine lv_icmp_ge (tgt := 178) hx hb (dk DX1_init 91 rfl) (by decide) (fun h => absurd h (by decide)) (fun _ => ?_)
  refine lv_aload_n hx hb (dk DX1_init 92 rfl) rfl (lv_at hl 1 rfl) ?_
  refine gX1_60 (o := o) (k := o + 11) C hR ⟨by omega, h0⟩ (by simp [mrOf, rMatch, rLaw, rBook]) (dk DX1_init 93 rfl) ?_
  refine lv_iload_n hx hb (dk DX1_init 94 rfl) rfl (lv_at hl 0 rfl) ?_
  refine lv_iconst (v := (-1 : Int32)) hx hb (dk DX1_init 95 rfl) (by decide) ?_
  refine k_iast (o := o + 11) (j := 42) C hR ⟨by omega, h11⟩ rfl (by decide) (dk DX1_init 96 rfl) (fun H locs hR => ?_)
  refine lv_iinc (v := (43 : Int32)) (lv' := [(1, .int (43 : Int32)), (0, .ref (G.2.1 + o))]) hx hb (dk DX1_init 97 rfl) hl (k := 0) rfl (by decide) (by decide) rfl (fun ls hl => ?_)
  refine lv_goto (tgt := 159) hx hb (dk DX1_init 98 rfl) (by decide) ?_
  refine lv_iload_n hx hb (dk DX1_init 89 rfl) rfl (lv_at hl 0 rfl) ?_
  refine lv_bipush (v := (72 : Int32)) hx hb (dk DX1_init 90 rfl) (by decide) ?_
  refine lv_icmp_ge (tgt := 178) hx hb (dk DX1_init 91 rfl) (by decide) (fun h => absurd h (by decide)) (fun _ => ?_)
  refine lv_aload_n hx hb (dk DX1_init 92 rfl) rfl (lv_at hl 1 rfl) ?_
  refine gX1_60 (o := o) (k := o + 11) C hR ⟨by omega, h0⟩ (by simp [mrOf, rMatch, rLaw, rBook]) (dk DX1_init 93 rfl) ?_
  refine lv_iload_n hx hb (dk DX1_init 94 rfl) rfl (lv_at hl 0 rfl) ?_
  refine lv_iconst (v := (-1 : Int32)) hx hb (dk DX1_init 95 rfl) (by decide) ?_
  refine k_iast (o := o + 11) (j := 43) C hR ⟨by omega, h11⟩ rfl (by decide) (dk DX1_init 96 rfl) (fun H locs hR => ?_)
  refine lv_iinc (v := (44 : Int32)) (lv' := [(1, .int (44 : Int32)), (0, .ref (G.2.1 + o))]) hx hb (dk DX1_init 97 rfl) hl (k := 0) rfl (by decide) (by decide) rfl (fun ls hl => ?_)
  refine lv_goto (tgt := 159) hx hb (dk DX1_init 98 rfl) (by decide) ?_
  refine lv_iload_n hx hb (dk DX1_init 89 rfl) rfl (lv_at hl 0 rfl) ?_
  refine lv_bipush (v := (72 : Int32)) hx hb (dk DX1_init 90 rfl) (by decide) ?_
  refine lv_icmp_ge (tgt := 178) hx hb (dk DX1_init 91 rfl) (by decide) (fun h => absurd h (by decide)) (fun _ => ?_)
  refine lv_aload_n hx hb (dk DX1_init 92 rfl) rfl (lv_at hl 1 rfl) ?_
  refine gX1_60 (o := o) (k := o + 11) C hR ⟨by omega, h0⟩ (by simp [mrOf, rMatch, rLaw, rBook]) (dk DX1_init 93 rfl) ?_
  refine lv_iload_n hx hb (dk DX1_init 94 rfl) rfl (lv_at hl 0 rfl) ?_
  refine lv_iconst (v := (-1 : Int32)) hx hb (dk DX1_init 95 rfl) (by decide) ?_
  refine k_iast (o := o + 11) (j := 44) C hR ⟨by omega, h11⟩ rfl (by decide) (dk DX1_init 96 rfl) (fun H locs hR => ?_)
  refine lv_iinc (v := (45 : Int32)) (lv' := [(1, .int (45 : Int32)), (0, .ref (G.2.1 + o))]) hx hb (dk DX1_init 97 rfl) hl (k := 0) rfl (by decide) (by decide) rfl (fun ls hl => ?_)
  refine lv_goto (tgt := 159) hx hb (dk DX1_init 98 rfl) (by decide) ?_
  refine lv_iload_n hx hb (dk DX1_init 89 rfl) rfl (lv_at hl 0 rfl) ?_
  refine lv_bipush (v := (72 : Int32)) hx hb (dk DX1_init 90 rfl) (by decide) ?_
  refine lv_icmp_ge (tgt := 178) hx hb (dk DX1_init 91 rfl) (by decide) (fun h => absurd h (by decide)) (fun _ => ?_)
  refine lv_aload_n hx hb (dk DX1_init 92 rfl) rfl (lv_at hl 1 rfl) ?_
  refine gX1_60 (o := o) (k := o + 11) C hR ⟨by omega, h0⟩ (by simp [mrOf, rMatch, rLaw, rBook]) (dk DX1_init 93 rfl) ?_
  refine lv_iload_n hx hb (dk DX1_init 94 rfl) rfl (lv_at hl 0 rfl) ?_
  refine lv_iconst (v := (-1 : Int32)) hx hb (dk DX1_init 95 rfl) (by decide) ?_
  refine k_iast (o := o + 11) (j := 45) C hR ⟨by omega, h11⟩ rfl (by decide) (dk DX1_init 96 rfl) (fun H locs hR => ?_)
  refine lv_iinc (v := (46 : Int32)) (lv' := [(1, .int (46 : Int32)), (0, .ref (G.2.1 + o))]) hx hb (dk DX1_init 97 rfl) hl (k := 0) rfl (by decide) (by decide) rfl (fun ls hl => ?_)
  refine lv_goto (tgt := 159) hx hb (dk DX1_init 98 rfl) (by decide) ?_
  refine lv_iload_n hx hb (dk DX1_init 89 rfl) rfl (lv_at hl 0 rfl) ?_
  refine lv_bipush (v := (72 : Int32)) hx hb (dk DX1_init 90 rfl) (by decide) ?_
  refine lv_icmp_ge (tgt := 178) hx hb (dk DX1_init 91 rfl) (by decide) (fun h => absurd h (by decide)) (fun _ => ?_)
  refine lv_aload_n hx hb (dk DX1_init 92 rfl) rfl (lv_at hl 1 rfl) ?_
  refine gX1_60 (o := o) (k := o + 11) C hR ⟨by omega, h0⟩ (by simp [mrOf, rMatch, rLaw, rBook]) (dk DX1_init 93 rfl) ?_
  refine lv_iload_n hx hb (dk DX1_init 94 rfl) rfl (lv_at hl 0 rfl) ?_
  refine lv_iconst (v := (-1 : Int32)) hx hb (dk DX1_init 95 rfl) (by decide) ?_
  refine k_iast (o := o + 11) (j := 46) C hR ⟨by omega, h11⟩ rfl (by decide) (dk DX1_init 96 rfl) (fun H locs hR => ?_)
  refine lv_iinc (v := (47 : Int32)) (lv' := [(1, .int (47 : Int32)), (0, .ref (G.2.1 + o))]) hx hb (dk DX1_init 97 rfl) hl (k := 0) rfl (by decide) (by decide) rfl (fun ls hl => ?_)
  refine lv_goto (tgt := 159) hx hb (dk DX1_init 98 rfl) (by decide) ?_
  refine lv_iload_n hx hb (dk DX1_init 89 rfl) rfl (lv_at hl 0 rfl) ?_
  refine lv_bipush (v := (72 : Int32)) hx hb (dk DX1_init 90 rfl) (by decide) ?_
  refine lv_icmp_ge (tgt := 178) hx hb (dk DX1_init 91 rfl) (by decide) (fun h => absurd h (by decide)) (fun _ => ?_)
  refine lv_aload_n hx hb (dk DX1_init 92 rfl) rfl (lv_at hl 1 rfl) ?_
  refine gX1_60 (o := o) (k := o + 11) C hR ⟨by omega, h0⟩ (by simp [mrOf, rMatch, rLaw, rBook]) (dk DX1_init 93 rfl) ?_
  refine lv_iload_n hx hb (dk DX1_init 94 rfl) rfl (lv_at hl 0 rfl) ?_
  refine lv_iconst (v := (-1 : Int32)) hx hb (dk DX1_init 95 rfl) (by decide) ?_
  refine k_iast (o := o + 11) (j := 47) C hR ⟨by omega, h11⟩ rfl (by decide) (dk DX1_init 96 rfl) (fun H locs hR => ?_)
  refine lv_iinc (v := (48 : Int32)) (lv' := [(1, .int (48 : Int32)), (0, .ref (G.2.1 + o))]) hx hb (dk DX1_init 97 rfl) hl (k := 0) rfl (by decide) (by decide) rfl (fun ls hl => ?_)
  refine lv_goto (tgt := 159) hx hb (dk DX1_init 98 rfl) (by decide) ?_
  refine lv_iload_n hx hb (dk DX1_init 89 rfl) rfl (lv_at hl 0 rfl) ?_
  refine lv_bipush (v := (72 : Int32)) hx hb (dk DX1_init 90 rfl) (by decide) ?_
  refine lv_icmp_ge (tgt := 178) hx hb (dk DX1_init 91 rfl) (by decide) (fun h => absurd h (by decide)) (fun _ => ?_)
  refine lv_aload_n hx hb (dk DX1_init 92 rfl) rfl (lv_at hl 1 rfl) ?_
  refine gX1_60 (o := o) (k := o + 11) C hR ⟨by omega, h0⟩ (by simp [mrOf, rMatch, rLaw, rBook]) (dk DX1_init 93 rfl) ?_
  refine lv_iload_n hx hb (dk DX1_init 94 rfl) rfl (lv_at hl 0 rfl) ?_
  refine lv_iconst (v := (-1 : Int32)) hx hb (dk DX1_init 95 rfl) (by decide) ?_
  refine k_iast (o := o + 11) (j := 48) C hR ⟨by omega, h11⟩ rfl (by decide) (dk DX1_init 96 rfl) (fun H locs hR => ?_)
  refine lv_iinc (v := (49 : Int32)) (lv' := [(1, .int (49 : Int32)), (0, .ref (G.2.1 + o))]) hx hb (dk DX1_init 97 rfl) hl (k := 0) rfl (by decide) (by decide) rfl (fun ls hl => ?_)
  refine lv_goto (tgt := 159) hx hb (dk DX1_init 98 rfl) (by decide) ?_
  refine lv_iload_n hx hb (dk DX1_init 89 rfl) rfl (lv_at hl 0 rfl) ?_
  refine lv_bipush (v := (72 : Int32)) hx hb (dk DX1_init 90 rfl) (by decide) ?_
  refine lv_icmp_ge (tgt := 178) hx hb (dk DX1_init 91 rfl) (by decide) (fun h => absurd h (by decide)) (fun _ => ?_)
  refine lv_aload_n hx hb (dk DX1_init 92 rfl) rfl (lv_at hl 1 rfl) ?_
  refine gX1_60 (o := o) (k := o + 11) C hR ⟨by omega, h0⟩ (by simp [mrOf, rMatch, rLaw, rBook]) (dk DX1_init 93 rfl) ?_
  refine lv_iload_n hx hb (dk DX1_init 94 rfl) rfl (lv_at hl 0 rfl) ?_
  refine lv_iconst (v := (-1 : Int32)) hx hb (dk DX1_init 95 rfl) (by decide) ?_
  refine k_iast (o := o + 11) (j := 49) C hR ⟨by omega, h11⟩ rfl (by decide) (dk DX1_init 96 rfl) (fun H locs hR => ?_)
  refine lv_iinc (v := (50 : Int32)) (lv' := [(1, .int (50 : Int32)), (0, .ref (G.2.1 + o))]) hx hb (dk DX1_init 97 rfl) hl (k := 0) rfl (by decide) (by decide) rfl (fun ls hl => ?_)
  refine lv_goto (tgt := 159) hx hb (dk DX1_init 98 rfl) (by decide) ?_
  refine lv_iload_n hx hb (dk DX1_init 89 rfl) rfl (lv_at hl 0 rfl) ?_
  refine lv_bipush (v := (72 : Int32)) hx hb (dk DX1_init 90 rfl) (by decide) ?_
  refine lv_icmp_ge (tgt := 178) hx hb (dk DX1_init 91 rfl) (by decide) (fun h => absurd h (by decide)) (fun _ => ?_)
  refine lv_aload_n hx hb (dk DX1_init 92 rfl) rfl (lv_at hl 1 rfl) ?_
  refine gX1_60 (o := o) (k := o + 11) C hR ⟨by omega, h0⟩ (by simp [mrOf, rMatch, rLaw, rBook]) (dk DX1_init 93 rfl) ?_
  refine lv_iload_n hx hb (dk DX1_init 94 rfl) rfl (lv_at hl 0 rfl) ?_
  refine lv_iconst (v := (-1 : Int32)) hx hb (dk DX1_init 95 rfl) (by decide) ?_
  refine k_iast (o := o + 11) (j := 50) C hR ⟨by omega, h11⟩ rfl (by decide) (dk DX1_init 96 rfl) (fun H locs hR => ?_)
  refine lv_iinc (v := (51 : Int32)) (lv' := [(1, .int (51 : Int32)), (0, .ref (G.2.1 + o))]) hx hb (dk DX1_init 97 rfl) hl (k := 0) rfl (by decide) (by decide) rfl (fun ls hl => ?_)
  refine lv_goto (tgt := 159) hx hb (dk DX1_init 98 rfl) (by decide) ?_
  refine lv_iload_n hx hb (dk DX1_init 89 rfl) rfl (lv_at hl 0 rfl) ?_
  refine lv_bipush (v := (72 : Int32)) hx hb (dk DX1_init 90 rfl) (by decide) ?_
  refine lv_icmp_ge (tgt := 178) hx hb (dk DX1_init 91 rfl) (by decide) (fun h => absurd h (by decide)) (fun _ => ?_)
  refine lv_aload_n hx hb (dk DX1_init 92 rfl) rfl (lv_at hl 1 rfl) ?_
  refine gX1_60 (o := o) (k := o + 11) C hR ⟨by omega, h0⟩ (by simp [mrOf, rMatch, rLaw, rBook]) (dk DX1_init 93 rfl) ?_
  refine lv_iload_n hx hb (dk DX1_init 94 rfl) rfl (lv_at hl 0 rfl) ?_
  refine lv_iconst (v := (-1 : Int32)) hx hb (dk DX1_init 95 rfl) (by decide) ?_
  refine k_iast (o := o + 11) (j := 51) C hR ⟨by omega, h11⟩ rfl (by decide) (dk DX1_init 96 rfl) (fun H locs hR => ?_)
  refine lv_iinc (v := (52 : Int32)) (lv' := [(1, .int (52 : Int32)), (0, .ref (G.2.1 + o))]) hx hb (dk DX1_init 97 rfl) hl (k := 0) rfl (by decide) (by decide) rfl (fun ls hl => ?_)
  refine lv_goto (tgt := 159) hx hb (dk DX1_init 98 rfl) (by decide) ?_
  refine lv_iload_n hx hb (dk DX1_init 89 rfl) rfl (lv_at hl 0 rfl) ?_
  refine lv_bipush (v := (72 : Int32)) hx hb (dk DX1_init 90 rfl) (by decide) ?_
  refine lv_icmp_ge (tgt := 178) hx hb (dk DX1_init 91 rfl) (by decide) (fun h => absurd h (by decide)) (fun _ => ?_)
  refine lv_aload_n hx hb (dk DX1_init 92 rfl) rfl (lv_at hl 1 rfl) ?_
  refine gX1_60 (o := o) (k := o + 11) C hR ⟨by omega, h0⟩ (by simp [mrOf, rMatch, rLaw, rBook]) (dk DX1_init 93 rfl) ?_
  refine lv_iload_n hx hb (dk DX1_init 94 rfl) rfl (lv_at hl 0 rfl) ?_
  refine lv_iconst (v := (-1 : Int32)) hx hb (dk DX1_init 95 rfl) (by decide) ?_
  refine k_iast (o := o + 11) (j := 52) C hR ⟨by omega, h11⟩ rfl (by decide) (dk DX1_init 96 rfl) (fun H locs hR => ?_)
  refine lv_iinc (v := (53 : Int32)) (lv' := [(1, .int (53 : Int32)), (0, .ref (G.2.1 + o))]) hx hb (dk DX1_init 97 rfl) hl (k := 0) rfl (by decide) (by decide) rfl (fun ls hl => ?_)
  refine lv_goto (tgt := 159) hx hb (dk DX1_init 98 rfl) (by decide) ?_
  refine lv_iload_n hx hb (dk DX1_init 89 rfl) rfl (lv_at hl 0 rfl) ?_
  refine lv_bipush (v := (72 : Int32)) hx hb (dk DX1_init 90 rfl) (by decide) ?_
  refine lv_icmp_ge (tgt := 178) hx hb (dk DX1_init 91 rfl) (by decide) (fun h => absurd h (by decide)) (fun _ => ?_)
  refine lv_aload_n hx hb (dk DX1_init 92 rfl) rfl (lv_at hl 1 rfl) ?_
  refine gX1_60 (o := o) (k := o + 11) C hR ⟨by omega, h0⟩ (by simp [mrOf, rMatch, rLaw, rBook]) (dk DX1_init 93 rfl) ?_
  refine lv_iload_n hx hb (dk DX1_init 94 rfl) rfl (lv_at hl 0 rfl) ?_
  refine lv_iconst (v := (-1 : Int32)) hx hb (dk DX1_init 95 rfl) (by decide) ?_
  refine k_iast (o := o + 11) (j := 53) C hR ⟨by omega, h11⟩ rfl (by decide) (dk DX1_init 96 rfl) (fun H locs hR => ?_)
  refine lv_iinc (v := (54 : Int32)) (lv' := [(1, .int (54 : Int32)), (0, .ref (G.2.1 + o))]) hx hb (dk DX1_init 97 rfl) hl (k := 0) rfl (by decide) (by decide) rfl (fun ls hl => ?_)
  refine lv_goto (tgt := 159) hx hb (dk DX1_init 98 rfl) (by decide) ?_
  refine lv_iload_n hx hb (dk DX1_init 89 rfl) rfl (lv_at hl 0 rfl) ?_
  refine lv_bipush (v := (72 : Int32)) hx hb (dk DX1_init 90 rfl) (by decide) ?_
  refine lv_icmp_ge (tgt := 178) hx hb (dk DX1_init 91 rfl) (by decide) (fun h => absurd h (by decide)) (fun _ => ?_)
  refine lv_aload_n hx hb (dk DX1_init 92 rfl) rfl (lv_at hl 1 rfl) ?_
  refine gX1_60 (o := o) (k := o + 11) C hR ⟨by omega, h0⟩ (by simp [mrOf, rMatch, rLaw, rBook]) (dk DX1_init 93 rfl) ?_
  refine lv_iload_n hx hb (dk DX1_init 94 rfl) rfl (lv_at hl 0 rfl) ?_
  refine lv_iconst (v := (-1 : Int32)) hx hb (dk DX1_init 95 rfl) (by decide) ?_
  refine k_iast (o := o + 11) (j := 54) C hR ⟨by omega, h11⟩ rfl (by decide) (dk DX1_init 96 rfl) (fun H locs hR => ?_)
  refine lv_iinc (v := (55 : Int32)) (lv' := [(1, .int (55 : Int32)), (0, .ref (G.2.1 + o))]) hx hb (dk DX1_init 97 rfl) hl (k := 0) rfl (by decide) (by decide) rfl (fun ls hl => ?_)
  refine lv_goto (tgt := 159) hx hb (dk DX1_init 98 rfl) (by decide) ?_
  refine lv_iload_n hx hb (dk DX1_init 89 rfl) rfl (lv_at hl 0 rfl) ?_
  refine lv_bipush (v := (72 : Int32)) hx hb (dk DX1_init 90 rfl) (by decide) ?_
  refine lv_icmp_ge (tgt := 178) hx hb (dk DX1_init 91 rfl) (by decide) (fun h => absurd h (by decide)) (fun _ => ?_)
  refine lv_aload_n hx hb (dk DX1_init 92 rfl) rfl (lv_at hl 1 rfl) ?_
  refine gX1_60 (o := o) (k := o + 11) C hR ⟨by omega, h0⟩ (by simp [mrOf, rMatch, rLaw, rBook]) (dk DX1_init 93 rfl) ?_
  refine lv_iload_n hx hb (dk DX1_init 94 rfl) rfl (lv_at hl 0 rfl) ?_
  refine lv_iconst (v := (-1 : Int32)) hx hb (dk DX1_init 95 rfl) (by decide) ?_
  refine k_iast (o := o + 11) (j := 55) C hR ⟨by omega, h11⟩ rfl (by decide) (dk DX1_init 96 rfl) (fun H locs hR => ?_)
  refine lv_iinc (v := (56 : Int32)) (lv' := [(1, .int (56 : Int32)), (0, .ref (G.2.1 + o))]) hx hb (dk DX1_init 97 rfl) hl (k := 0) rfl (by decide) (by decide) rfl (fun ls hl => ?_)
  refine lv_goto (tgt := 159) hx hb (dk DX1_init 98 rfl) (by decide) ?_
  refine lv_iload_n hx hb (dk DX1_init 89 rfl) rfl (lv_at hl 0 rfl) ?_
  refine lv_bipush (v := (72 : Int32)) hx hb (dk DX1_init 90 rfl) (by decide) ?_
  refine lv_icmp_ge (tgt := 178) hx hb (dk DX1_init 91 rfl) (by decide) (fun h => absurd h (by decide)) (fun _ => ?_)
  refine lv_aload_n hx hb (dk DX1_init 92 rfl) rfl (lv_at hl 1 rfl) ?_
  refine gX1_60 (o := o) (k := o + 11) C hR ⟨by omega, h0⟩ (by simp [mrOf, rMatch, rLaw, rBook]) (dk DX1_init 93 rfl) ?_
  refine lv_iload_n hx hb (dk DX1_init 94 rfl) rfl (lv_at hl 0 rfl) ?_
  refine lv_iconst (v := (-1 : Int32)) hx hb (dk DX1_init 95 rfl) (by decide) ?_
  refine k_iast (o := o + 11) (j := 56) C hR ⟨by omega, h11⟩ rfl (by decide) (dk DX1_init 96 rfl) (fun H locs hR => ?_)
  refine lv_iinc (v := (57 : Int32)) (lv' := [(1, .int (57 : Int32)), (0, .ref (G.2.1 + o))]) hx hb (dk DX1_init 97 rfl) hl (k := 0) rfl (by decide) (by decide) rfl (fun ls hl => ?_)
  refine lv_goto (tgt := 159) hx hb (dk DX1_init 98 rfl) (by decide) ?_
  refine lv_iload_n hx hb (dk DX1_init 89 rfl) rfl (lv_at hl 0 rfl) ?_
  refine lv_bipush (v := (72 : Int32)) hx hb (dk DX1_init 90 rfl) (by decide) ?_
  refine lv_icmp_ge (tgt := 178) hx hb (dk DX1_init 91 rfl) (by decide) (fun h => absurd h (by decide)) (fun _ => ?_)
  refine lv_aload_n hx hb (dk DX1_init 92 rfl) rfl (lv_at hl 1 rfl) ?_
  refine gX1_60 (o := o) (k := o + 11) C hR ⟨by omega, h0⟩ (by simp [mrOf, rMatch, rLaw, rBook]) (dk DX1_init 93 rfl) ?_
  refine lv_iload_n hx hb (dk DX1_init 94 rfl) rfl (lv_at hl 0 rfl) ?_
  refine lv_iconst (v := (-1 : Int32)) hx hb (dk DX1_init 95 rfl) (by decide) ?_
  refine k_iast (o := o + 11) (j := 57) C hR ⟨by omega, h11⟩ rfl (by decide) (dk DX1_init 96 rfl) (fun H locs hR => ?_)
  refine lv_iinc (v := (58 : Int32)) (lv' := [(1, .int (58 : Int32)), (0, .ref (G.2.1 + o))]) hx hb (dk DX1_init 97 rfl) hl (k := 0) rfl (by decide) (by decide) rfl (fun ls hl => ?_)
  refine lv_goto (tgt := 159) hx hb (dk DX1_init 98 rfl) (by decide) ?_
  refine lv_iload_n hx hb (dk DX1_init 89 rfl) rfl (lv_at hl 0 rfl) ?_
  refine lv_bipush (v := (72 : Int32)) hx hb (dk DX1_init 90 rfl) (by decide) ?_
  refine lv_icmp_ge (tgt := 178) hx hb (dk DX1_init 91 rfl) (by decide) (fun h => absurd h (by decide)) (fun _ => ?_)
  refine lv_aload_n hx hb (dk DX1_init 92 rfl) rfl (lv_at hl 1 rfl) ?_
  refine gX1_60 (o := o) (k := o + 11) C hR ⟨by omega, h0⟩ (by simp [mrOf, rMatch, rLaw, rBook]) (dk DX1_init 93 rfl) ?_
  refine lv_iload_n hx hb (dk DX1_init 94 rfl) rfl (lv_at hl 0 rfl) ?_
  refine lv_iconst (v := (-1 : Int32)) hx hb (dk DX1_init 95 rfl) (by decide) ?_
  refine k_iast (o := o + 11) (j := 58) C hR ⟨by omega, h11⟩ rfl (by decide) (dk DX1_init 96 rfl) (fun H locs hR => ?_)
  refine lv_iinc (v := (59 : Int32)) (lv' := [(1, .int (59 : Int32)), (0, .ref (G.2.1 + o))]) hx hb (dk DX1_init 97 rfl) hl (k := 0) rfl (by decide) (by decide) rfl (fun ls hl => ?_)
  refine lv_goto (tgt := 159) hx hb (dk DX1_init 98 rfl) (by decide) ?_
  refine lv_iload_n hx hb (dk DX1_init 89 rfl) rfl (lv_at hl 0 rfl) ?_
  refine lv_bipush (v := (72 : Int32)) hx hb (dk DX1_init 90 rfl) (by decide) ?_
  refine lv_icmp_ge (tgt := 178) hx hb (dk DX1_init 91 rfl) (by decide) (fun h => absurd h (by decide)) (fun _ => ?_)
  refine lv_aload_n hx hb (dk DX1_init 92 rfl) rfl (lv_at hl 1 rfl) ?_
  refine gX1_60 (o := o) (k := o + 11) C hR ⟨by omega, h0⟩ (by simp [mrOf, rMatch, rLaw, rBook]) (dk DX1_init 93 rfl) ?_
  refine lv_iload_n hx hb (dk DX1_init 94 rfl) rfl (lv_at hl 0 rfl) ?_
  refine lv_iconst (v := (-1 : Int32)) hx hb (dk DX1_init 95 rfl) (by decide) ?_
  refine k_iast (o := o + 11) (j := 59) C hR ⟨by omega, h11⟩ rfl (by decide) (dk DX1_init 96 rfl) (fun H locs hR => ?_)
  refine lv_iinc (v := (60 : Int32)) (lv' := [(1, .int (60 : Int32)), (0, .ref (G.2.1 + o))]) hx hb (dk DX1_init 97 rfl) hl (k := 0) rfl (by decide) (by decide) rfl (fun ls hl => ?_)
  refine lv_goto (tgt := 159) hx hb (dk DX1_init 98 rfl) (by decide) ?_
  refine lv_iload_n hx hb (dk DX1_init 89 rfl) rfl (lv_at hl 0 rfl) ?_
  refine lv_bipush (v := (72 : Int32)) hx hb (dk DX1_init 90 rfl) (by decide) ?_
  refine lv_icmp_ge (tgt := 178) hx hb (dk DX1_init 91 rfl) (by decide) (fun h => absurd h (by decide)) (fun _ => ?_)
  refine lv_aload_n hx hb (dk DX1_init 92 rfl) rfl (lv_at hl 1 rfl) ?_
  refine gX1_60 (o := o) (k := o + 11) C hR ⟨by omega, h0⟩ (by simp [mrOf, rMatch, rLaw, rBook]) (dk DX1_init 93 rfl) ?_
  refine lv_iload_n hx hb (dk DX1_init 94 rfl) rfl (lv_at hl 0 rfl) ?_
  refine lv_iconst (v := (-1 : Int32)) hx hb (dk DX1_init 95 rfl) (by decide) ?_
  refine k_iast (o := o + 11) (j := 60) C hR ⟨by omega, h11⟩ rfl (by decide) (dk DX1_init 96 rfl) (fun H locs hR => ?_)
  refine lv_iinc (v := (61 : Int32)) (lv' := [(1, .int (61 : Int32)), (0, .ref (G.2.1 + o))]) hx hb (dk DX1_init 97 rfl) hl (k := 0) rfl (by decide) (by decide) rfl (fun ls hl => ?_)
  refine lv_goto (tgt := 159) hx hb (dk DX1_init 98 rfl) (by decide) ?_
  refine lv_iload_n hx hb (dk DX1_init 89 rfl) rfl (lv_at hl 0 rfl) ?_
  refine lv_bipush (v := (72 : Int32)) hx hb (dk DX1_init 90 rfl) (by decide) ?_
  refine lv_icmp_ge (tgt := 178) hx hb (dk DX1_init 91 rfl) (by decide) (fun h => absurd h (by decide)) (fun _ => ?_)
  refine lv_aload_n hx hb (dk DX1_init 92 rfl) rfl (lv_at hl 1 rfl) ?_
  refine gX1_60 (o := o) (k := o + 11) C hR ⟨by omega, h0⟩ (by simp [mrOf, rMatch, rLaw, rBook]) (dk DX1_init 93 rfl) ?_
  refine lv_iload_n hx hb (dk DX1_init 94 rfl) rfl (lv_at hl 0 rfl) ?_
  refine lv_iconst (v := (-1 : Int32)) hx hb (dk DX1_init 95 rfl) (by decide) ?_
  refine k_iast (o := o + 11) (j := 61) C hR ⟨by omega, h11⟩ rfl (by decide) (dk DX1_init 96 rfl) (fun H locs hR => ?_)
  refine lv_iinc (v := (62 : Int32)) (lv' := [(1, .int (62 : Int32)), (0, .ref (G.2.1 + o))]) hx hb (dk DX1_init 97 rfl) hl (k := 0) rfl (by decide) (by decide) rfl (fun ls hl => ?_)
  refine lv_goto (tgt := 159) hx hb (dk DX1_init 98 rfl) (by decide) ?_
  refine lv_iload_n hx hb (dk DX1_init 89 rfl) rfl (lv_at hl 0 rfl) ?_
  refine lv_bipush (v := (72 : Int32)) hx hb (dk DX1_init 90 rfl) (by decide) ?_
  refine lv_icmp_ge (tgt := 178) hx hb (dk DX1_init 91 rfl) (by decide) (fun h => absurd h (by decide)) (fun _ => ?_)
  refine lv_aload_n hx hb (dk DX1_init 92 rfl) rfl (lv_at hl 1 rfl) ?_
  refine gX1_60 (o := o) (k := o + 11) C hR ⟨by omega, h0⟩ (by simp [mrOf, rMatch, rLaw, rBook]) (dk DX1_init 93 rfl) ?_
  refine lv_iload_n hx hb (dk DX1_init 94 rfl) rfl (lv_at hl 0 rfl) ?_
  refine lv_iconst (v := (-1 : Int32)) hx hb (dk DX1_init 95 rfl) (by decide) ?_
  refine k_iast (o := o + 11) (j := 62) C hR ⟨by omega, h11⟩ rfl (by decide) (dk DX1_init 96 rfl) (fun H locs hR => ?_)
  refine lv_iinc (v := (63 : Int32)) (lv' := [(1, .int (63 : Int32)), (0, .ref (G.2.1 + o))]) hx hb (dk DX1_init 97 rfl) hl (k := 0) rfl (by decide) (by decide) rfl (fun ls hl => ?_)
  refine lv_goto (tgt := 159) hx hb (dk DX1_init 98 rfl) (by decide) ?_
  refine lv_iload_n hx hb (dk DX1_init 89 rfl) rfl (lv_at hl 0 rfl) ?_
  refine lv_bipush (v := (72 : Int32)) hx hb (dk DX1_init 90 rfl) (by decide) ?_
  refine lv_icmp_ge (tgt := 178) hx hb (dk DX1_init 91 rfl) (by decide) (fun h => absurd h (by decide)) (fun _ => ?_)
  refine lv_aload_n hx hb (dk DX1_init 92 rfl) rfl (lv_at hl 1 rfl) ?_
  refine gX1_60 (o := o) (k := o + 11) C hR ⟨by omega, h0⟩ (by simp [mrOf, rMatch, rLaw, rBook]) (dk DX1_init 93 rfl) ?_
  refine lv_iload_n hx hb (dk DX1_init 94 rfl) rfl (lv_at hl 0 rfl) ?_
  refine lv_iconst (v := (-1 : Int32)) hx hb (dk DX1_init 95 rfl) (by decide) ?_
  refine k_iast (o := o + 11) (j := 63) C hR ⟨by omega, h11⟩ rfl (by decide) (dk DX1_init 96 rfl) (fun H locs hR => ?_)
  refine lv_iinc (v := (64 : Int32)) (lv' := [(1, .int (64 : Int32)), (0, .ref (G.2.1 + o))]) hx hb (dk DX1_init 97 rfl) hl (k := 0) rfl (by decide) (by decide) rfl (fun ls hl => ?_)
  refine lv_goto (tgt := 159) hx hb (dk DX1_init 98 rfl) (by decide) ?_
  refine lv_iload_n hx hb (dk DX1_init 89 rfl) rfl (lv_at hl 0 rfl) ?_
  refine lv_bipush (v := (72 : Int32)) hx hb (dk DX1_init 90 rfl) (by decide) ?_
  refine lv_icmp_ge (tgt := 178) hx hb (dk DX1_init 91 rfl) (by decide) (fun h => absurd h (by decide)) (fun _ => ?_)
  refine lv_aload_n hx hb (dk DX1_init 92 rfl) rfl (lv_at hl 1 rfl) ?_
  refine gX1_60 (o := o) (k := o + 11) C hR ⟨by omega, h0⟩ (by simp [mrOf, rMatch, rLaw, rBook]) (dk DX1_init 93 rfl) ?_
  refine lv_iload_n hx hb (dk DX1_init 94 rfl) rfl (lv_at hl 0 rfl) ?_
  refine lv_iconst (v := (-1 : Int32)) hx hb (dk DX1_init 95 rfl) (by decide) ?_
  refine k_iast (o := o + 11) (j := 64) C hR ⟨by omega, h11⟩ rfl (by decide) (dk DX1_init 96 rfl) (fun H locs hR => ?_)
  refine lv_iinc (v := (65 : Int32)) (lv' := [(1, .int (65 : Int32)), (0, .ref (G.2.1 + o))]) hx hb (dk DX1_init 97 rfl) hl (k := 0) rfl (by decide) (by decide) rfl (fun ls hl => ?_)
  refine lv_goto (tgt := 159) hx hb (dk DX1_init 98 rfl) (by decide) ?_
  refine lv_iload_n hx hb (dk DX1_init 89 rfl) rfl (lv_at hl 0 rfl) ?_
  refine lv_bipush (v := (72 : Int32)) hx hb (dk DX1_init 90 rfl) (by decide) ?_
  refine lv_icmp_ge (tgt := 178) hx hb (dk DX1_init 91 rfl) (by decide) (fun h => absurd h (by decide)) (fun _ => ?_)
  refine lv_aload_n hx hb (dk DX1_init 92 rfl) rfl (lv_at hl 1 rfl) ?_
  refine gX1_60 (o := o) (k := o + 11) C hR ⟨by omega, h0⟩ (by simp [mrOf, rMatch, rLaw, rBook]) (dk DX1_init 93 rfl) ?_
  refine lv_iload_n hx hb (dk DX1_init 94 rfl) rfl (lv_at hl 0 rfl) ?_
  refine lv_iconst (v := (-1 : Int32)) hx hb (dk DX1_init 95 rfl) (by decide) ?_
  refine k_iast (o := o + 11) (j := 65) C hR ⟨by omega, h11⟩ rfl (by decide) (dk DX1_init 96 rfl) (fun H locs hR => ?_)
  refine lv_iinc (v := (66 : Int32)) (lv' := [(1, .int (66 : Int32)), (0, .ref (G.2.1 + o))]) hx hb (dk DX1_init 97 rfl) hl (k := 0) rfl (by decide) (by decide) rfl (fun ls hl => ?_)
  refine lv_goto (tgt := 159) hx hb (dk DX1_init 98 rfl) (by decide) ?_
  refine lv_iload_n hx hb (dk DX1_init 89 rfl) rfl (lv_at hl 0 rfl) ?_
  refine lv_bipush (v := (72 : Int32)) hx hb (dk DX1_init 90 rfl) (by decide) ?_
  refine lv_icmp_ge (tgt := 178) hx hb (dk DX1_init 91 rfl) (by decide) (fun h => absurd h (by decide)) (fun _ => ?_)
  refine lv_aload_n hx hb (dk DX1_init 92 rfl) rfl (lv_at hl 1 rfl) ?_
  refine gX1_60 (o := o) (k := o + 11) C hR ⟨by omega, h0⟩ (by simp [mrOf, rMatch, rLaw, rBook]) (dk DX1_init 93 rfl) ?_
  refine lv_iload_n hx hb (dk DX1_init 94 rfl) rfl (lv_at hl 0 rfl) ?_
  refine lv_iconst (v := (-1 : Int32)) hx hb (dk DX1_init 95 rfl) (by decide) ?_
  refine k_iast (o := o + 11) (j := 66) C hR ⟨by omega, h11⟩ rfl (by decide) (dk DX1_init 96 rfl) (fun H locs hR => ?_)
  refine lv_iinc (v := (67 : Int32)) (lv' := [(1, .int (67 : Int32)), (0, .ref (G.2.1 + o))]) hx hb (dk DX1_init 97 rfl) hl (k := 0) rfl (by decide) (by decide) rfl (fun ls hl => ?_)
  refine lv_goto (tgt := 159) hx hb (dk DX1_init 98 rfl) (by decide) ?_
  refine lv_iload_n hx hb (dk DX1_init 89 rfl) rfl (lv_at hl 0 rfl) ?_
  refine lv_bipush (v := (72 : Int32)) hx hb (dk DX1_init 90 rfl) (by decide) ?_
  refine lv_icmp_ge (tgt := 178) hx hb (dk DX1_init 91 rfl) (by decide) (fun h => absurd h (by decide)) (fun _ => ?_)
  refine lv_aload_n hx hb (dk DX1_init 92 rfl) rfl (lv_at hl 1 rfl) ?_
  refine gX1_60 (o := o) (k := o + 11) C hR ⟨by omega, h0⟩ (by simp [mrOf, rMatch, rLaw, rBook]) (dk DX1_init 93 rfl) ?_
  refine lv_iload_n hx hb (dk DX1_init 94 rfl) rfl (lv_at hl 0 rfl) ?_
  refine lv_iconst (v := (-1 : Int32)) hx hb (dk DX1_init 95 rfl) (by decide) ?_
  refine k_iast (o := o + 11) (j := 67) C hR ⟨by omega, h11⟩ rfl (by decide) (dk DX1_init 96 rfl) (fun H locs hR => ?_)
  refine lv_iinc (v := (68 : Int32)) (lv' := [(1, .int (68 : Int32)), (0, .ref (G.2.1 + o))]) hx hb (dk DX1_init 97 rfl) hl (k := 0) rfl (by decide) (by decide) rfl (fun ls hl => ?_)
  refine lv_goto (tgt := 159) hx hb (dk DX1_init 98 rfl) (by decide) ?_
  refine lv_iload_n hx hb (dk DX1_init 89 rfl) rfl (lv_at hl 0 rfl) ?_
  refine lv_bipush (v := (72 : Int32)) hx hb (dk DX1_init 90 rfl) (by decide) ?_
  refine lv_icmp_ge (tgt := 178) hx hb (dk DX1_init 91 rfl) (by decide) (fun h => absurd h (by decide)) (fun _ => ?_)
  refine lv_aload_n hx hb (dk DX1_init 92 rfl) rfl (lv_at hl 1 rfl) ?_
  refine gX1_60 (o := o) (k := o + 11) C hR ⟨by omega, h0⟩ (by simp [mrOf, rMatch, rLaw, rBook]) (dk DX1_init 93 rfl) ?_
  refine lv_iload_n hx hb (dk DX1_init 94 rfl) rfl (lv_at hl 0 rfl) ?_
  refine lv_iconst (v := (-1 : Int32)) hx hb (dk DX1_init 95 rfl) (by decide) ?_
  refine k_iast (o := o + 11) (j := 68) C hR ⟨by omega, h11⟩ rfl (by decide) (dk DX1_init 96 rfl) (fun H locs hR => ?_)
  refine lv_iinc (v := (69 : Int32)) (lv' := [(1, .int (69 : Int32)), (0, .ref (G.2.1 + o))]) hx hb (dk DX1_init 97 rfl) hl (k := 0) rfl (by decide) (by decide) rfl (fun ls hl => ?_)
  refine lv_goto (tgt := 159) hx hb (dk DX1_init 98 rfl) (by decide) ?_
  refine lv_iload_n hx hb (dk DX1_init 89 rfl) rfl (lv_at hl 0 rfl) ?_
  refine lv_bipush (v := (72 : Int32)) hx hb (dk DX1_init 90 rfl) (by decide) ?_
  refine lv_icmp_ge (tgt := 178) hx hb (dk DX1_init 91 rfl) (by decide) (fun h => absurd h (by decide)) (fun _ => ?_)
  refine lv_aload_n hx hb (dk DX1_init 92 rfl) rfl (lv_at hl 1 rfl) ?_
  refine gX1_60 (o := o) (k := o + 11) C hR ⟨by omega, h0⟩ (by simp [mrOf, rMatch, rLaw, rBook]) (dk DX1_init 93 rfl) ?_
  refine lv_iload_n hx hb (dk DX1_init 94 rfl) rfl (lv_at hl 0 rfl) ?_
  refine lv_iconst (v := (-1 : Int32)) hx hb (dk DX1_init 95 rfl) (by decide) ?_
  refine k_iast (o := o + 11) (j := 69) C hR ⟨by omega, h11⟩ rfl (by decide) (dk DX1_init 96 rfl) (fun H locs hR => ?_)
  refine lv_iinc (v := (70 : Int32)) (lv' := [(1, .int (70 : Int32)), (0, .ref (G.2.1 + o))]) hx hb (dk DX1_init 97 rfl) hl (k := 0) rfl (by decide) (by decide) rfl (fun ls hl => ?_)
  refine lv_goto (tgt := 159) hx hb (dk DX1_init 98 rfl) (by decide) ?_
  refine lv_iload_n hx hb (dk DX1_init 89 rfl) rfl (lv_at hl 0 rfl) ?_
  refine lv_bipush (v := (72 : Int32)) hx hb (dk DX1_init 90 rfl) (by decide) ?_
  refine lv_icmp_ge (tgt := 178) hx hb (dk DX1_init 91 rfl) (by decide) (fun h => absurd h (by decide)) (fun _ => ?_)
  refine lv_aload_n hx hb (dk DX1_init 92 rfl) rfl (lv_at hl 1 rfl) ?_
  refine gX1_60 (o := o) (k := o + 11) C hR ⟨by omega, h0⟩ (by simp [mrOf, rMatch, rLaw, rBook]) (dk DX1_init 93 rfl) ?_
  refine lv_iload_n hx hb (dk DX1_init 94 rfl) rfl (lv_at hl 0 rfl) ?_
  refine lv_iconst (v := (-1 : Int32)) hx hb (dk DX1_init 95 rfl) (by decide) ?_
  refine k_iast (o := o + 11) (j := 70) C hR ⟨by omega, h11⟩ rfl (by decide) (dk DX1_init 96 rfl) (fun H locs hR => ?_)
  refine lv_iinc (v := (71 : Int32)) (lv' := [(1, .int (71 : Int32)), (0, .ref (G.2.1 + o))]) hx hb (dk DX1_init 97 rfl) hl (k := 0) rfl (by decide) (by decide) rfl (fun ls hl => ?_)
  refine lv_goto (tgt := 159) hx hb (dk DX1_init 98 rfl) (by decide) ?_
  refine lv_iload_n hx hb (dk DX1_init 89 rfl) rfl (lv_at hl 0 rfl) ?_
  refine lv_bipush (v := (72 : Int32)) hx hb (dk DX1_init 90 rfl) (by decide) ?_
  refine lv_icmp_ge (tgt := 178) hx hb (dk DX1_init 91 rfl) (by decide) (fun h => absurd h (by decide)) (fun _ => ?_)
  refine lv_aload_n hx hb (dk DX1_init 92 rfl) rfl (lv_at hl 1 rfl) ?_
  refine gX1_60 (o := o) (k := o + 11) C hR ⟨by omega, h0⟩ (by simp [mrOf, rMatch, rLaw, rBook]) (dk DX1_init 93 rfl) ?_
  refine lv_iload_n hx hb (dk DX1_init 94 rfl) rfl (lv_at hl 0 rfl) ?_
  refine lv_iconst (v := (-1 : Int32)) hx hb (dk DX1_init 95 rfl) (by decide) ?_
  refine k_iast (o := o + 11) (j := 71) C hR ⟨by omega, h11⟩ rfl (by decide) (dk DX1_init 96 rfl) (fun H locs hR => ?_)
  refine lv_iinc (v := (72 : Int32)) (lv' := [(1, .int (72 : Int32)), (0, .ref (G.2.1 + o))]) hx hb (dk DX1_init 97 rfl) hl (k := 0) rfl (by decide) (by decide) rfl (fun ls hl => ?_)
  refine lv_goto (tgt := 159) hx hb (dk DX1_init 98 rfl) (by decide) ?_
  refine lv_iload_n hx hb (dk DX1_init 89 rfl) rfl (lv_at hl 0 rfl) ?_
  refine lv_bipush (v := (72 : Int32)) hx hb (dk DX1_init 90 rfl) (by decide) ?_
  refine lv_icmp_ge (tgt := 178) hx hb (dk DX1_init 91 rfl) (by decide) (fun _ => ?_) (fun h => absurd (by decide) h)
  exact k_ret C hrt hR (dk DX1_init 99 rfl)
def rText2 (o : Nat) (rl : RL_) : RL_ := ((o, 3, o + 4) :: ((o, 2, o + 3) :: ((o, 1, o + 2) :: ((o, 0, o + 1) :: rl))))
def wText2 (o : Nat) (wl : WL_) : WL_ := ((o, 6, .inl (-1 : Int32)) :: ((o, 5, .inl (0 : Int32)) :: ((o, 4, .inl (0 : Int32)) :: wl)))
theorem rb_Text2 {o : Nat} {rl : RL_} {n : Nat} (hn : o + 5 ≤ n) (hB : RBq rl n) : RBq (rText2 o rl) n := by
  unfold rText2
  repeat' (first | exact hB.up (by omega) | refine RBq.cons (by omega) ?_ | refine rb_Match (by omega) ?_ | refine rb_Law (by omega) ?_ | refine rb_Book (by omega) ?_ | refine rb_Ground (by omega) ?_)
theorem wb_Text2 {o : Nat} {wl : WL_} {n : Nat} (hn : o + 5 ≤ n) (hB : WB_ wl n) : WB_ (wText2 o wl) n := by
  unfold wText2
  repeat' (first | exact hB.up (by omega) | refine WB_.cons (by omega) ?_ | refine wb_Match (by omega) ?_ | refine wb_Law (by omega) ?_ | refine wb_Book (by omega) ?_ | refine wb_Ground (by omega) ?_)
set_option maxRecDepth 40000 in
set_option maxHeartbeats 4000000 in
theorem K_Text2 (l : Launch) (hl0 : l.stackTraces = false) (G : GG) (o : Nat) (h0 : kd o = (0, 2)) (h1 : kd (o + 1) = (1, 400)) (h2 : kd (o + 2) = (1, 401)) (h3 : kd (o + 3) = (1, 401)) (h4 : kd (o + 4) = (1, 401)) (rl : RL_) (wl : WL_) (hB : RBq rl (o + 1)) (hW : WB_ wl (o + 1)) : Kc l G yX9_init cX9_init 1 1 4 1603 o (o + 1) rl wl (rText2 o rl) (wText2 o wl) := by
  refine Kc_of hl0 (by decide) (by decide) rfl ?_
  intro p e s mid args below meth c ls C hnm hsz hG hAO hrt hl hR
  have hx := C.1.1
  have hb := C.1.2.1
  refine lv_aload_n hx hb (dk DX9_init 0 rfl) rfl (lv_at hl 0 rfl) ?_
  refine k_obj C (gd q392 rfl) (gd q166 rfl) (gd q167 rfl) (by decide) hl.1 (dk DX9_init 1 rfl) ?_
  refine lv_aload_n hx hb (dk DX9_init 2 rfl) rfl (lv_at hl 0 rfl) ?_
  refine lv_sipush (v := (400 : Int32)) hx hb (dk DX9_init 3 rfl) (by decide) ?_
  refine r_newi (N := 400) C hR (by omega) hG (by repeat' (first | exact hW.up (by omega) | refine WB_.cons (by omega) ?_ | refine wb_Match (by omega) ?_ | refine wb_Law (by omega) ?_ | refine wb_Book (by omega) ?_ | refine wb_Ground (by omega) ?_)) h1 (gd q206 rfl) ⟨by decide, by decide⟩ (by decide) (by decide) (by decide) (dk DX9_init 4 rfl) (fun H hR => ?_)
  refine k_cells (k := 1) (n' := 400) rfl rfl ?_
  have hR := k_at (n' := o + 2) hR rfl
  refine r_putR (o := o) (k := o + 1) (ci := 2) (j := 0) (ty := tyX2 0) C hnm hR ⟨by omega, h0⟩ rfl iX2 tyX2 tyX2_ok nmX2 (by decide) (by decide) rfl (gd q397 rfl) (fun _ h => h) rfl rfl (tyX2_ok 0 (by decide)) rfl rfl (dk DX9_init 5 rfl) (fun H locs hR => ?_)
  refine lv_aload_n hx hb (dk DX9_init 6 rfl) rfl (lv_at hl 0 rfl) ?_
  refine lv_sipush (v := (401 : Int32)) hx hb (dk DX9_init 7 rfl) (by decide) ?_
  refine r_newi (N := 401) C hR (by omega) hG (by repeat' (first | exact hW.up (by omega) | refine WB_.cons (by omega) ?_ | refine wb_Match (by omega) ?_ | refine wb_Law (by omega) ?_ | refine wb_Book (by omega) ?_ | refine wb_Ground (by omega) ?_)) h2 (gd q206 rfl) ⟨by decide, by decide⟩ (by decide) (by decide) (by decide) (dk DX9_init 8 rfl) (fun H hR => ?_)
  refine k_cells (k := 2) (n' := 801) rfl rfl ?_
  have hR := k_at (n' := o + 3) hR rfl
  refine r_putR (o := o) (k := o + 2) (ci := 2) (j := 1) (ty := tyX2 1) C hnm hR ⟨by omega, h0⟩ rfl iX2 tyX2 tyX2_ok nmX2 (by decide) (by decide) rfl (gd q398 rfl) (fun _ h => h) rfl rfl (tyX2_ok 1 (by decide)) rfl rfl (dk DX9_init 9 rfl) (fun H locs hR => ?_)
  refine lv_aload_n hx hb (dk DX9_init 10 rfl) rfl (lv_at hl 0 rfl) ?_
  refine lv_sipush (v := (401 : Int32)) hx hb (dk DX9_init 11 rfl) (by decide) ?_
  refine r_newi (N := 401) C hR (by omega) hG (by repeat' (first | exact hW.up (by omega) | refine WB_.cons (by omega) ?_ | refine wb_Match (by omega) ?_ | refine wb_Law (by omega) ?_ | refine wb_Book (by omega) ?_ | refine wb_Ground (by omega) ?_)) h3 (gd q206 rfl) ⟨by decide, by decide⟩ (by decide) (by decide) (by decide) (dk DX9_init 12 rfl) (fun H hR => ?_)
  refine k_cells (k := 3) (n' := 1202) rfl rfl ?_
  have hR := k_at (n' := o + 4) hR rfl
  refine r_putR (o := o) (k := o + 3) (ci := 2) (j := 2) (ty := tyX2 2) C hnm hR ⟨by omega, h0⟩ rfl iX2 tyX2 tyX2_ok nmX2 (by decide) (by decide) rfl (gd q399 rfl) (fun _ h => h) rfl rfl (tyX2_ok 2 (by decide)) rfl rfl (dk DX9_init 13 rfl) (fun H locs hR => ?_)
  refine lv_aload_n hx hb (dk DX9_init 14 rfl) rfl (lv_at hl 0 rfl) ?_
  refine lv_sipush (v := (401 : Int32)) hx hb (dk DX9_init 15 rfl) (by decide) ?_
  refine r_newi (N := 401) C hR (by omega) hG (by repeat' (first | exact hW.up (by omega) | refine WB_.cons (by omega) ?_ | refine wb_Match (by omega) ?_ | refine wb_Law (by omega) ?_ | refine wb_Book (by omega) ?_ | refine wb_Ground (by omega) ?_)) h4 (gd q206 rfl) ⟨by decide, by decide⟩ (by decide) (by decide) (by decide) (dk DX9_init 16 rfl) (fun H hR => ?_)
  refine k_cells (k := 4) (n' := 1603) rfl rfl ?_
  have hR := k_at (n' := o + 5) hR rfl
  refine r_putR (o := o) (k := o + 4) (ci := 2) (j := 3) (ty := tyX2 3) C hnm hR ⟨by omega, h0⟩ rfl iX2 tyX2 tyX2_ok nmX2 (by decide) (by decide) rfl (gd q400 rfl) (fun _ h => h) rfl rfl (tyX2_ok 3 (by decide)) rfl rfl (dk DX9_init 17 rfl) (fun H locs hR => ?_)
  refine lv_aload_n hx hb (dk DX9_init 18 rfl) rfl (lv_at hl 0 rfl) ?_
  refine lv_iconst (v := (0 : Int32)) hx hb (dk DX9_init 19 rfl) (by decide) ?_
  refine pX9_24_2 (o := o) (x := (0 : Int32)) C hR ⟨by omega, h0⟩ (dk DX9_init 20 rfl) (fun H locs hR => ?_)
  have hR := k_I hR
  refine lv_aload_n hx hb (dk DX9_init 21 rfl) rfl (lv_at hl 0 rfl) ?_
  refine lv_iconst (v := (0 : Int32)) hx hb (dk DX9_init 22 rfl) (by decide) ?_
  refine pX9_28_2 (o := o) (x := (0 : Int32)) C hR ⟨by omega, h0⟩ (dk DX9_init 23 rfl) (fun H locs hR => ?_)
  have hR := k_I hR
  refine lv_aload_n hx hb (dk DX9_init 24 rfl) rfl (lv_at hl 0 rfl) ?_
  refine lv_iconst (v := (-1 : Int32)) hx hb (dk DX9_init 25 rfl) (by decide) ?_
  refine pX9_31_2 (o := o) (x := (-1 : Int32)) C hR ⟨by omega, h0⟩ (dk DX9_init 26 rfl) (fun H locs hR => ?_)
  have hR := k_I hR
  exact k_ret C hrt hR (dk DX9_init 27 rfl)
def rText4 (o : Nat) (rl : RL_) : RL_ := ((o, 3, o + 4) :: ((o, 2, o + 3) :: ((o, 1, o + 2) :: ((o, 0, o + 1) :: rl))))
def wText4 (o : Nat) (wl : WL_) : WL_ := ((o, 6, .inl (-1 : Int32)) :: ((o, 5, .inl (0 : Int32)) :: ((o, 4, .inl (0 : Int32)) :: wl)))
theorem rb_Text4 {o : Nat} {rl : RL_} {n : Nat} (hn : o + 5 ≤ n) (hB : RBq rl n) : RBq (rText4 o rl) n := by
  unfold rText4
  repeat' (first | exact hB.up (by omega) | refine RBq.cons (by omega) ?_ | refine rb_Match (by omega) ?_ | refine rb_Law (by omega) ?_ | refine rb_Book (by omega) ?_ | refine rb_Ground (by omega) ?_ | refine rb_Text2 (by omega) ?_)
theorem wb_Text4 {o : Nat} {wl : WL_} {n : Nat} (hn : o + 5 ≤ n) (hB : WB_ wl n) : WB_ (wText4 o wl) n := by
  unfold wText4
  repeat' (first | exact hB.up (by omega) | refine WB_.cons (by omega) ?_ | refine wb_Match (by omega) ?_ | refine wb_Law (by omega) ?_ | refine wb_Book (by omega) ?_ | refine wb_Ground (by omega) ?_ | refine wb_Text2 (by omega) ?_)
set_option maxRecDepth 40000 in
set_option maxHeartbeats 4000000 in
theorem K_Text4 (l : Launch) (hl0 : l.stackTraces = false) (G : GG) (o : Nat) (h0 : kd o = (0, 4)) (h1 : kd (o + 1) = (1, 400)) (h2 : kd (o + 2) = (1, 401)) (h3 : kd (o + 3) = (1, 401)) (h4 : kd (o + 4) = (1, 401)) (rl : RL_) (wl : WL_) (hB : RBq rl (o + 1)) (hW : WB_ wl (o + 1)) : Kc l G yX9_init cX9_init 1 1 4 1603 o (o + 1) rl wl (rText4 o rl) (wText4 o wl) := by
  refine Kc_of hl0 (by decide) (by decide) rfl ?_
  intro p e s mid args below meth c ls C hnm hsz hG hAO hrt hl hR
  have hx := C.1.1
  have hb := C.1.2.1
  refine lv_aload_n hx hb (dk DX9_init 0 rfl) rfl (lv_at hl 0 rfl) ?_
  refine k_obj C (gd q392 rfl) (gd q166 rfl) (gd q167 rfl) (by decide) hl.1 (dk DX9_init 1 rfl) ?_
  refine lv_aload_n hx hb (dk DX9_init 2 rfl) rfl (lv_at hl 0 rfl) ?_
  refine lv_sipush (v := (400 : Int32)) hx hb (dk DX9_init 3 rfl) (by decide) ?_
  refine r_newi (N := 400) C hR (by omega) hG (by repeat' (first | exact hW.up (by omega) | refine WB_.cons (by omega) ?_ | refine wb_Match (by omega) ?_ | refine wb_Law (by omega) ?_ | refine wb_Book (by omega) ?_ | refine wb_Ground (by omega) ?_ | refine wb_Text2 (by omega) ?_)) h1 (gd q206 rfl) ⟨by decide, by decide⟩ (by decide) (by decide) (by decide) (dk DX9_init 4 rfl) (fun H hR => ?_)
  refine k_cells (k := 1) (n' := 400) rfl rfl ?_
  have hR := k_at (n' := o + 2) hR rfl
  refine r_putR (o := o) (k := o + 1) (ci := 4) (j := 0) (ty := tyX4 0) C hnm hR ⟨by omega, h0⟩ rfl iX4 tyX4 tyX4_ok nmX4 (by decide) (by decide) rfl (gd q397 rfl) (fun _ h => h) rfl rfl (tyX4_ok 0 (by decide)) rfl rfl (dk DX9_init 5 rfl) (fun H locs hR => ?_)
  refine lv_aload_n hx hb (dk DX9_init 6 rfl) rfl (lv_at hl 0 rfl) ?_
  refine lv_sipush (v := (401 : Int32)) hx hb (dk DX9_init 7 rfl) (by decide) ?_
  refine r_newi (N := 401) C hR (by omega) hG (by repeat' (first | exact hW.up (by omega) | refine WB_.cons (by omega) ?_ | refine wb_Match (by omega) ?_ | refine wb_Law (by omega) ?_ | refine wb_Book (by omega) ?_ | refine wb_Ground (by omega) ?_ | refine wb_Text2 (by omega) ?_)) h2 (gd q206 rfl) ⟨by decide, by decide⟩ (by decide) (by decide) (by decide) (dk DX9_init 8 rfl) (fun H hR => ?_)
  refine k_cells (k := 2) (n' := 801) rfl rfl ?_
  have hR := k_at (n' := o + 3) hR rfl
  refine r_putR (o := o) (k := o + 2) (ci := 4) (j := 1) (ty := tyX4 1) C hnm hR ⟨by omega, h0⟩ rfl iX4 tyX4 tyX4_ok nmX4 (by decide) (by decide) rfl (gd q398 rfl) (fun _ h => h) rfl rfl (tyX4_ok 1 (by decide)) rfl rfl (dk DX9_init 9 rfl) (fun H locs hR => ?_)
  refine lv_aload_n hx hb (dk DX9_init 10 rfl) rfl (lv_at hl 0 rfl) ?_
  refine lv_sipush (v := (401 : Int32)) hx hb (dk DX9_init 11 rfl) (by decide) ?_
  refine r_newi (N := 401) C hR (by omega) hG (by repeat' (first | exact hW.up (by omega) | refine WB_.cons (by omega) ?_ | refine wb_Match (by omega) ?_ | refine wb_Law (by omega) ?_ | refine wb_Book (by omega) ?_ | refine wb_Ground (by omega) ?_ | refine wb_Text2 (by omega) ?_)) h3 (gd q206 rfl) ⟨by decide, by decide⟩ (by decide) (by decide) (by decide) (dk DX9_init 12 rfl) (fun H hR => ?_)
  refine k_cells (k := 3) (n' := 1202) rfl rfl ?_
  have hR := k_at (n' := o + 4) hR rfl
  refine r_putR (o := o) (k := o + 3) (ci := 4) (j := 2) (ty := tyX4 2) C hnm hR ⟨by omega, h0⟩ rfl iX4 tyX4 tyX4_ok nmX4 (by decide) (by decide) rfl (gd q399 rfl) (fun _ h => h) rfl rfl (tyX4_ok 2 (by decide)) rfl rfl (dk DX9_init 13 rfl) (fun H locs hR => ?_)
  refine lv_aload_n hx hb (dk DX9_init 14 rfl) rfl (lv_at hl 0 rfl) ?_
  refine lv_sipush (v := (401 : Int32)) hx hb (dk DX9_init 15 rfl) (by decide) ?_
  refine r_newi (N := 401) C hR (by omega) hG (by repeat' (first | exact hW.up (by omega) | refine WB_.cons (by omega) ?_ | refine wb_Match (by omega) ?_ | refine wb_Law (by omega) ?_ | refine wb_Book (by omega) ?_ | refine wb_Ground (by omega) ?_ | refine wb_Text2 (by omega) ?_)) h4 (gd q206 rfl) ⟨by decide, by decide⟩ (by decide) (by decide) (by decide) (dk DX9_init 16 rfl) (fun H hR => ?_)
  refine k_cells (k := 4) (n' := 1603) rfl rfl ?_
  have hR := k_at (n' := o + 5) hR rfl
  refine r_putR (o := o) (k := o + 4) (ci := 4) (j := 3) (ty := tyX4 3) C hnm hR ⟨by omega, h0⟩ rfl iX4 tyX4 tyX4_ok nmX4 (by decide) (by decide) rfl (gd q400 rfl) (fun _ h => h) rfl rfl (tyX4_ok 3 (by decide)) rfl rfl (dk DX9_init 17 rfl) (fun H locs hR => ?_)
  refine lv_aload_n hx hb (dk DX9_init 18 rfl) rfl (lv_at hl 0 rfl) ?_
  refine lv_iconst (v := (0 : Int32)) hx hb (dk DX9_init 19 rfl) (by decide) ?_
  refine pX9_24_4 (o := o) (x := (0 : Int32)) C hR ⟨by omega, h0⟩ (dk DX9_init 20 rfl) (fun H locs hR => ?_)
  have hR := k_I hR
  refine lv_aload_n hx hb (dk DX9_init 21 rfl) rfl (lv_at hl 0 rfl) ?_
  refine lv_iconst (v := (0 : Int32)) hx hb (dk DX9_init 22 rfl) (by decide) ?_
  refine pX9_28_4 (o := o) (x := (0 : Int32)) C hR ⟨by omega, h0⟩ (dk DX9_init 23 rfl) (fun H locs hR => ?_)
  have hR := k_I hR
  refine lv_aload_n hx hb (dk DX9_init 24 rfl) rfl (lv_at hl 0 rfl) ?_
  refine lv_iconst (v := (-1 : Int32)) hx hb (dk DX9_init 25 rfl) (by decide) ?_
  refine pX9_31_4 (o := o) (x := (-1 : Int32)) C hR ⟨by omega, h0⟩ (dk DX9_init 26 rfl) (fun H locs hR => ?_)
  have hR := k_I hR
  exact k_ret C hrt hR (dk DX9_init 27 rfl)
def rOdds (rl : RL_) : RL_ := ((2, 1, 15) :: ((2, 0, 3) :: (rGround 3 rl)))
def wOdds (wl : WL_) : WL_ := ((2, 8, .inr (.inl (-1 : Int64))) :: ((2, 7, .inr (.inl (-1 : Int64))) :: ((2, 6, .inr (.inr (false : Bool))) :: ((2, 5, .inl (0 : Int32)) :: ((2, 4, .inl (0 : Int32)) :: ((2, 3, .inr (.inr (true : Bool))) :: ((2, 2, .inr (.inl (0 : Int64))) :: (wGround 3 wl))))))))
theorem rb_Odds {rl : RL_} {n : Nat} (hn : 16 ≤ n) (hB : RBq rl n) : RBq (rOdds rl) n := by
  unfold rOdds
  repeat' (first | exact hB.up (by omega) | refine RBq.cons (by omega) ?_ | refine rb_Match (by omega) ?_ | refine rb_Law (by omega) ?_ | refine rb_Book (by omega) ?_ | refine rb_Ground (by omega) ?_ | refine rb_Text2 (by omega) ?_ | refine rb_Text4 (by omega) ?_)
theorem wb_Odds {wl : WL_} {n : Nat} (hn : 16 ≤ n) (hB : WB_ wl n) : WB_ (wOdds wl) n := by
  unfold wOdds
  repeat' (first | exact hB.up (by omega) | refine WB_.cons (by omega) ?_ | refine wb_Match (by omega) ?_ | refine wb_Law (by omega) ?_ | refine wb_Book (by omega) ?_ | refine wb_Ground (by omega) ?_ | refine wb_Text2 (by omega) ?_ | refine wb_Text4 (by omega) ?_)
set_option maxRecDepth 40000 in
set_option maxHeartbeats 4000000 in
theorem K_Odds (l : Launch) (hl0 : l.stackTraces = false) (G : GG)  (rl : RL_) (wl : WL_) (hB : RBq rl 3) (hW : WB_ wl 3) : Kc l G yX7_init cX7_init 1 3 13 193831 2 3 rl wl (rOdds rl) (wOdds wl) := by
  refine Kc_of hl0 (by decide) (by decide) rfl ?_
  intro p e s mid args below meth c ls C hnm hsz hG hAO hrt hl hR
  have hx := C.1.1
  have hb := C.1.2.1
  refine lv_aload_n hx hb (dk DX7_init 0 rfl) rfl (lv_at hl 0 rfl) ?_
  refine k_obj C (gd q173 rfl) (gd q166 rfl) (gd q167 rfl) (by decide) hl.1 (dk DX7_init 1 rfl) ?_
  refine lv_aload_n hx hb (dk DX7_init 2 rfl) rfl (lv_at hl 0 rfl) ?_
  refine r_new C hR (by omega) hG (by repeat' (first | exact hW.up (by omega) | refine WB_.cons (by omega) ?_ | refine wb_Match (by omega) ?_ | refine wb_Law (by omega) ?_ | refine wb_Book (by omega) ?_ | refine wb_Ground (by omega) ?_ | refine wb_Text2 (by omega) ?_ | refine wb_Text4 (by omega) ?_)) (by repeat' (first | exact hB.up (by omega) | refine RBq.cons (by omega) ?_ | refine rb_Match (by omega) ?_ | refine rb_Law (by omega) ?_ | refine rb_Book (by omega) ?_ | refine rb_Ground (by omega) ?_ | refine rb_Text2 (by omega) ?_ | refine rb_Text4 (by omega) ?_)) rfl rfl iX1 tyX1 tyX1_ok dvX1 (gd q174 rfl) (gd q175 rfl) (gd q136 rfl) (by decide) (by decide) (dk DX7_init 3 rfl) (fun H hR => ?_)
  refine k_cells (k := 1) (n' := 14) rfl rfl ?_
  have hR := k_at (n' := 4) hR rfl
  refine lv_dup hx hb (dk DX7_init 4 rfl) rfl ?_
  refine r_callK (o := 3) C hAO hR (by omega) (K_Ground l hl0 G 3 rfl rfl rfl rfl rfl rfl rfl rfl rfl rfl rfl rfl _ _ (by repeat' (first | exact hB.up (by omega) | refine RBq.cons (by omega) ?_ | refine rb_Match (by omega) ?_ | refine rb_Law (by omega) ?_ | refine rb_Book (by omega) ?_ | refine rb_Ground (by omega) ?_ | refine rb_Text2 (by omega) ?_ | refine rb_Text4 (by omega) ?_)) (by repeat' (first | exact hW.up (by omega) | refine WB_.cons (by omega) ?_ | refine wb_Match (by omega) ?_ | refine wb_Law (by omega) ?_ | refine wb_Book (by omega) ?_ | refine wb_Ground (by omega) ?_ | refine wb_Text2 (by omega) ?_ | refine wb_Text4 (by omega) ?_))) (by omega) (by decide) (by decide) wkX7_13 (Nat.le_of_ble_eq_true rfl) hl.1 ⟨by decide, by decide⟩ (dk DX7_init 5 rfl) (fun H locs hR => ?_)
  refine k_cells (k := 12) (n' := 781) rfl rfl ?_
  have hR := k_at (n' := 15) hR rfl
  refine r_putR (o := 2) (k := 3) (ci := 7) (j := 0) (ty := tyX7 0) C hnm hR ⟨by decide, rfl⟩ rfl iX7 tyX7 tyX7_ok nmX7 (by decide) (by decide) rfl (gd q286 rfl) (fun _ h => h) rfl rfl (tyX7_ok 0 (by decide)) rfl rfl (dk DX7_init 6 rfl) (fun H locs hR => ?_)
  refine lv_aload_n hx hb (dk DX7_init 7 rfl) rfl (lv_at hl 0 rfl) ?_
  refine lv_ldc (v := (193050 : Int32)) hx hb C.1.2.2.2.1 (C.1.2.2.2.2 _ (gd q284 rfl)) (dk DX7_init 8 rfl) ?_
  refine r_newl (N := 193050) C hR (by omega) hG (by repeat' (first | exact hW.up (by omega) | refine WB_.cons (by omega) ?_ | refine wb_Match (by omega) ?_ | refine wb_Law (by omega) ?_ | refine wb_Book (by omega) ?_ | refine wb_Ground (by omega) ?_ | refine wb_Text2 (by omega) ?_ | refine wb_Text4 (by omega) ?_)) rfl (gd q315 rfl) ⟨by decide, by decide⟩ (by decide) (by decide) (by decide) (dk DX7_init 9 rfl) (fun H hR => ?_)
  refine k_cells (k := 13) (n' := 193831) rfl rfl ?_
  have hR := k_at (n' := 16) hR rfl
  refine r_putR (o := 2) (k := 15) (ci := 7) (j := 1) (ty := tyX7 1) C hnm hR ⟨by decide, rfl⟩ rfl iX7 tyX7 tyX7_ok nmX7 (by decide) (by decide) rfl (gd q288 rfl) (fun _ h => h) rfl rfl (tyX7_ok 1 (by decide)) rfl rfl (dk DX7_init 10 rfl) (fun H locs hR => ?_)
  refine lv_aload_n hx hb (dk DX7_init 11 rfl) rfl (lv_at hl 0 rfl) ?_
  refine lv_lconst (v := (0 : Int64)) hx hb (dk DX7_init 12 rfl) (by decide) ?_
  refine pX7_23 (o := 2) (x := (0 : Int64)) C hR ⟨by decide, rfl⟩ (dk DX7_init 13 rfl) (fun H locs hR => ?_)
  have hR := k_L hR
  refine lv_aload_n hx hb (dk DX7_init 14 rfl) rfl (lv_at hl 0 rfl) ?_
  refine lv_iconst (v := (1 : Int32)) hx hb (dk DX7_init 15 rfl) (by decide) ?_
  refine pX7_27 (o := 2) (x := (true : Bool)) C hR ⟨by decide, rfl⟩ (dk DX7_init 16 rfl) (fun H locs hR => ?_)
  have hR := k_Z hR
  refine lv_aload_n hx hb (dk DX7_init 17 rfl) rfl (lv_at hl 0 rfl) ?_
  refine lv_iconst (v := (0 : Int32)) hx hb (dk DX7_init 18 rfl) (by decide) ?_
  refine pX7_31 (o := 2) (x := (0 : Int32)) C hR ⟨by decide, rfl⟩ (dk DX7_init 19 rfl) (fun H locs hR => ?_)
  have hR := k_I hR
  refine lv_aload_n hx hb (dk DX7_init 20 rfl) rfl (lv_at hl 0 rfl) ?_
  refine lv_iconst (v := (0 : Int32)) hx hb (dk DX7_init 21 rfl) (by decide) ?_
  refine pX7_35 (o := 2) (x := (0 : Int32)) C hR ⟨by decide, rfl⟩ (dk DX7_init 22 rfl) (fun H locs hR => ?_)
  have hR := k_I hR
  refine lv_aload_n hx hb (dk DX7_init 23 rfl) rfl (lv_at hl 0 rfl) ?_
  refine lv_iconst (v := (0 : Int32)) hx hb (dk DX7_init 24 rfl) (by decide) ?_
  refine pX7_38 (o := 2) (x := (false : Bool)) C hR ⟨by decide, rfl⟩ (dk DX7_init 25 rfl) (fun H locs hR => ?_)
  have hR := k_Z hR
  refine lv_aload_n hx hb (dk DX7_init 26 rfl) rfl (lv_at hl 0 rfl) ?_
  refine lv_ldc2 (v := (-1 : Int64)) hx hb C.1.2.2.2.1 (C.1.2.2.2.2 _ (gd q285 rfl)) (dk DX7_init 27 rfl) ?_
  refine pX7_43 (o := 2) (x := (-1 : Int64)) C hR ⟨by decide, rfl⟩ (dk DX7_init 28 rfl) (fun H locs hR => ?_)
  have hR := k_L hR
  refine lv_aload_n hx hb (dk DX7_init 29 rfl) rfl (lv_at hl 0 rfl) ?_
  refine lv_ldc2 (v := (-1 : Int64)) hx hb C.1.2.2.2.1 (C.1.2.2.2.2 _ (gd q285 rfl)) (dk DX7_init 30 rfl) ?_
  refine pX7_46 (o := 2) (x := (-1 : Int64)) C hR ⟨by decide, rfl⟩ (dk DX7_init 31 rfl) (fun H locs hR => ?_)
  have hR := k_L hR
  exact k_ret C hrt hR (dk DX7_init 32 rfl)
def rPast (rl : RL_) : RL_ := ((21, 11, 44) :: (rMatch 44 ((21, 10, 42) :: (rMatch 42 ((21, 9, 40) :: (rMatch 40 ((21, 8, 38) :: (rMatch 38 ((21, 7, 36) :: (rMatch 36 ((21, 6, 34) :: (rMatch 34 ((21, 5, 32) :: (rMatch 32 ((21, 4, 30) :: (rMatch 30 ((21, 3, 28) :: (rMatch 28 ((21, 2, 26) :: (rMatch 26 ((21, 1, 24) :: (rMatch 24 ((21, 0, 22) :: (rMatch 22 ((20, 2, 21) :: rl)))))))))))))))))))))))))
def wPast (wl : WL_) : WL_ := (wMatch 44 (wMatch 42 (wMatch 40 (wMatch 38 (wMatch 36 (wMatch 34 (wMatch 32 (wMatch 30 (wMatch 28 (wMatch 26 (wMatch 24 (wMatch 22 ((20, 1, .inl (0 : Int32)) :: ((20, 0, .inl (0 : Int32)) :: wl))))))))))))))
theorem rb_Past {rl : RL_} {n : Nat} (hn : 46 ≤ n) (hB : RBq rl n) : RBq (rPast rl) n := by
  unfold rPast
  repeat' (first | exact hB.up (by omega) | refine RBq.cons (by omega) ?_ | refine rb_Match (by omega) ?_ | refine rb_Law (by omega) ?_ | refine rb_Book (by omega) ?_ | refine rb_Ground (by omega) ?_ | refine rb_Text2 (by omega) ?_ | refine rb_Text4 (by omega) ?_ | refine rb_Odds (by omega) ?_)
theorem wb_Past {wl : WL_} {n : Nat} (hn : 46 ≤ n) (hB : WB_ wl n) : WB_ (wPast wl) n := by
  unfold wPast
  repeat' (first | exact hB.up (by omega) | refine WB_.cons (by omega) ?_ | refine wb_Match (by omega) ?_ | refine wb_Law (by omega) ?_ | refine wb_Book (by omega) ?_ | refine wb_Ground (by omega) ?_ | refine wb_Text2 (by omega) ?_ | refine wb_Text4 (by omega) ?_ | refine wb_Odds (by omega) ?_)
set_option maxRecDepth 40000 in
set_option maxHeartbeats 4000000 in
theorem K_Past (l : Launch) (hl0 : l.stackTraces = false) (G : GG)  (rl : RL_) (wl : WL_) (hB : RBq rl 21) (hW : WB_ wl 21) : Kc l G yX8_init cX8_init 2 2 25 900 20 21 rl wl (rPast rl) (wPast wl) := by
  refine Kc_of hl0 (by decide) (by decide) rfl ?_
  intro p e s mid args below meth c ls C hnm hsz hG hAO hrt hl hR
  have hx := C.1.1
  have hb := C.1.2.1
  refine lv_aload_n hx hb (dk DX8_init 0 rfl) rfl (lv_at hl 0 rfl) ?_
  refine k_obj C (gd q369 rfl) (gd q166 rfl) (gd q167 rfl) (by decide) hl.1 (dk DX8_init 1 rfl) ?_
  refine lv_aload_n hx hb (dk DX8_init 2 rfl) rfl (lv_at hl 0 rfl) ?_
  refine lv_iconst (v := (0 : Int32)) hx hb (dk DX8_init 3 rfl) (by decide) ?_
  refine pX8_7 (o := 20) (x := (0 : Int32)) C hR ⟨by decide, rfl⟩ (dk DX8_init 4 rfl) (fun H locs hR => ?_)
  have hR := k_I hR
  refine lv_aload_n hx hb (dk DX8_init 5 rfl) rfl (lv_at hl 0 rfl) ?_
  refine lv_iconst (v := (0 : Int32)) hx hb (dk DX8_init 6 rfl) (by decide) ?_
  refine pX8_13 (o := 20) (x := (0 : Int32)) C hR ⟨by decide, rfl⟩ (dk DX8_init 7 rfl) (fun H locs hR => ?_)
  have hR := k_I hR
  refine lv_aload_n hx hb (dk DX8_init 8 rfl) rfl (lv_at hl 0 rfl) ?_
  refine lv_bipush (v := (12 : Int32)) hx hb (dk DX8_init 9 rfl) (by decide) ?_
  refine r_newq (N := 12) C hR hAO (by omega) hG (by repeat' (first | exact hB.up (by omega) | refine RBq.cons (by omega) ?_ | refine rb_Match (by omega) ?_ | refine rb_Law (by omega) ?_ | refine rb_Book (by omega) ?_ | refine rb_Ground (by omega) ?_ | refine rb_Text2 (by omega) ?_ | refine rb_Text4 (by omega) ?_ | refine rb_Odds (by omega) ?_)) rfl (gd q370 rfl) ⟨by decide, by decide⟩ (by decide) (by decide) (by decide) (dk DX8_init 10 rfl) (fun H hR => ?_)
  refine k_cells (k := 1) (n' := 12) rfl rfl ?_
  have hR := k_at (n' := 22) hR rfl
  refine r_putR (o := 20) (k := 21) (ci := 8) (j := 2) (ty := tyX8 2) C hnm hR ⟨by decide, rfl⟩ rfl iX8 tyX8 tyX8_ok nmX8 (by decide) (by decide) rfl (gd q376 rfl) (fun _ h => h) rfl rfl (tyX8_ok 2 (by decide)) rfl rfl (dk DX8_init 11 rfl) (fun H locs hR => ?_)
  refine lv_iconst (v := (0 : Int32)) hx hb (dk DX8_init 12 rfl) (by decide) ?_
  refine lv_istore_n (lv' := [(1, .int (0 : Int32)), (0, .ref (G.2.1 + 20))]) hx hb (dk DX8_init 13 rfl) rfl hl (by decide) rfl (fun ls hl => ?_)
  refine lv_iload_n hx hb (dk DX8_init 14 rfl) rfl (lv_at hl 0 rfl) ?_
  refine lv_bipush (v := (12 : Int32)) hx hb (dk DX8_init 15 rfl) (by decide) ?_
  refine lv_icmp_ge (tgt := 50) hx hb (dk DX8_init 16 rfl) (by decide) (fun h => absurd h (by decide)) (fun _ => ?_)
  refine lv_aload_n hx hb (dk DX8_init 17 rfl) rfl (lv_at hl 1 rfl) ?_
  refine gX8_18 (o := 20) (k := 21) C hR ⟨by decide, rfl⟩ rfl (dk DX8_init 18 rfl) ?_
  refine lv_iload_n hx hb (dk DX8_init 19 rfl) rfl (lv_at hl 0 rfl) ?_
  refine r_new C hR (by omega) hG (by repeat' (first | exact hW.up (by omega) | refine WB_.cons (by omega) ?_ | refine wb_Match (by omega) ?_ | refine wb_Law (by omega) ?_ | refine wb_Book (by omega) ?_ | refine wb_Ground (by omega) ?_ | refine wb_Text2 (by omega) ?_ | refine wb_Text4 (by omega) ?_ | refine wb_Odds (by omega) ?_)) (by repeat' (first | exact hB.up (by omega) | refine RBq.cons (by omega) ?_ | refine rb_Match (by omega) ?_ | refine rb_Law (by omega) ?_ | refine rb_Book (by omega) ?_ | refine rb_Ground (by omega) ?_ | refine rb_Text2 (by omega) ?_ | refine rb_Text4 (by omega) ?_ | refine rb_Odds (by omega) ?_)) rfl rfl iX5 tyX5 tyX5_ok dvX5 (gd q370 rfl) (gd q317 rfl) (gd q139 rfl) (by decide) (by decide) (dk DX8_init 20 rfl) (fun H hR => ?_)
  refine k_cells (k := 2) (n' := 23) rfl rfl ?_
  have hR := k_at (n' := 23) hR rfl
  refine lv_dup hx hb (dk DX8_init 21 rfl) rfl ?_
  refine r_callKN (o := 22) C hAO hR (by omega) (K_Match l hl0 G 22 rfl rfl _ _ (by repeat' (first | exact hB.up (by omega) | refine RBq.cons (by omega) ?_ | refine rb_Match (by omega) ?_ | refine rb_Law (by omega) ?_ | refine rb_Book (by omega) ?_ | refine rb_Ground (by omega) ?_ | refine rb_Text2 (by omega) ?_ | refine rb_Text4 (by omega) ?_ | refine rb_Odds (by omega) ?_)) (by repeat' (first | exact hW.up (by omega) | refine WB_.cons (by omega) ?_ | refine wb_Match (by omega) ?_ | refine wb_Law (by omega) ?_ | refine wb_Book (by omega) ?_ | refine wb_Ground (by omega) ?_ | refine wb_Text2 (by omega) ?_ | refine wb_Text4 (by omega) ?_ | refine wb_Odds (by omega) ?_))) (by omega) (by decide) (by decide) wkX8_22 (Nat.le_of_ble_eq_true rfl) hl.1 ⟨by decide, by decide⟩ (dk DX8_init 22 rfl) (fun H locs hR => ?_)
  refine k_cells (k := 3) (n' := 86) rfl rfl ?_
  have hR := k_at (n' := 24) hR rfl
  refine r_aastR (o := 21) (k := 22) (j := 0) C hR ⟨by decide, rfl⟩ ⟨by decide, rfl⟩ rfl (by decide) (dk DX8_init 23 rfl) (fun H locs hR => ?_)
  refine lv_iinc (v := (1 : Int32)) (lv' := [(1, .int (1 : Int32)), (0, .ref (G.2.1 + 20))]) hx hb (dk DX8_init 24 rfl) hl (k := 0) rfl (by decide) (by decide) rfl (fun ls hl => ?_)
  refine lv_goto (tgt := 25) hx hb (dk DX8_init 25 rfl) (by decide) ?_
  refine lv_iload_n hx hb (dk DX8_init 14 rfl) rfl (lv_at hl 0 rfl) ?_
  refine lv_bipush (v := (12 : Int32)) hx hb (dk DX8_init 15 rfl) (by decide) ?_
  refine lv_icmp_ge (tgt := 50) hx hb (dk DX8_init 16 rfl) (by decide) (fun h => absurd h (by decide)) (fun _ => ?_)
  refine lv_aload_n hx hb (dk DX8_init 17 rfl) rfl (lv_at hl 1 rfl) ?_
  refine gX8_18 (o := 20) (k := 21) C hR ⟨by decide, rfl⟩ rfl (dk DX8_init 18 rfl) ?_
  refine lv_iload_n hx hb (dk DX8_init 19 rfl) rfl (lv_at hl 0 rfl) ?_
  refine r_new C hR (by omega) hG (by repeat' (first | exact hW.up (by omega) | refine WB_.cons (by omega) ?_ | refine wb_Match (by omega) ?_ | refine wb_Law (by omega) ?_ | refine wb_Book (by omega) ?_ | refine wb_Ground (by omega) ?_ | refine wb_Text2 (by omega) ?_ | refine wb_Text4 (by omega) ?_ | refine wb_Odds (by omega) ?_)) (by repeat' (first | exact hB.up (by omega) | refine RBq.cons (by omega) ?_ | refine rb_Match (by omega) ?_ | refine rb_Law (by omega) ?_ | refine rb_Book (by omega) ?_ | refine rb_Ground (by omega) ?_ | refine rb_Text2 (by omega) ?_ | refine rb_Text4 (by omega) ?_ | refine rb_Odds (by omega) ?_)) rfl rfl iX5 tyX5 tyX5_ok dvX5 (gd q370 rfl) (gd q317 rfl) (gd q139 rfl) (by decide) (by decide) (dk DX8_init 20 rfl) (fun H hR => ?_)
  refine k_cells (k := 4) (n' := 97) rfl rfl ?_
  have hR := k_at (n' := 25) hR rfl
  refine lv_dup hx hb (dk DX8_init 21 rfl) rfl ?_
  refine r_callKN (o := 24) C hAO hR (by omega) (K_Match l hl0 G 24 rfl rfl _ _ (by repeat' (first | exact hB.up (by omega) | refine RBq.cons (by omega) ?_ | refine rb_Match (by omega) ?_ | refine rb_Law (by omega) ?_ | refine rb_Book (by omega) ?_ | refine rb_Ground (by omega) ?_ | refine rb_Text2 (by omega) ?_ | refine rb_Text4 (by omega) ?_ | refine rb_Odds (by omega) ?_)) (by repeat' (first | exact hW.up (by omega) | refine WB_.cons (by omega) ?_ | refine wb_Match (by omega) ?_ | refine wb_Law (by omega) ?_ | refine wb_Book (by omega) ?_ | refine wb_Ground (by omega) ?_ | refine wb_Text2 (by omega) ?_ | refine wb_Text4 (by omega) ?_ | refine wb_Odds (by omega) ?_))) (by omega) (by decide) (by decide) wkX8_22 (Nat.le_of_ble_eq_true rfl) hl.1 ⟨by decide, by decide⟩ (dk DX8_init 22 rfl) (fun H locs hR => ?_)
  refine k_cells (k := 5) (n' := 160) rfl rfl ?_
  have hR := k_at (n' := 26) hR rfl
  refine r_aastR (o := 21) (k := 24) (j := 1) C hR ⟨by decide, rfl⟩ ⟨by decide, rfl⟩ rfl (by decide) (dk DX8_init 23 rfl) (fun H locs hR => ?_)
  refine lv_iinc (v := (2 : Int32)) (lv' := [(1, .int (2 : Int32)), (0, .ref (G.2.1 + 20))]) hx hb (dk DX8_init 24 rfl) hl (k := 0) rfl (by decide) (by decide) rfl (fun ls hl => ?_)
  refine lv_goto (tgt := 25) hx hb (dk DX8_init 25 rfl) (by decide) ?_
  refine lv_iload_n hx hb (dk DX8_init 14 rfl) rfl (lv_at hl 0 rfl) ?_
  refine lv_bipush (v := (12 : Int32)) hx hb (dk DX8_init 15 rfl) (by decide) ?_
  refine lv_icmp_ge (tgt := 50) hx hb (dk DX8_init 16 rfl) (by decide) (fun h => absurd h (by decide)) (fun _ => ?_)
  refine lv_aload_n hx hb (dk DX8_init 17 rfl) rfl (lv_at hl 1 rfl) ?_
  refine gX8_18 (o := 20) (k := 21) C hR ⟨by decide, rfl⟩ rfl (dk DX8_init 18 rfl) ?_
  refine lv_iload_n hx hb (dk DX8_init 19 rfl) rfl (lv_at hl 0 rfl) ?_
  refine r_new C hR (by omega) hG (by repeat' (first | exact hW.up (by omega) | refine WB_.cons (by omega) ?_ | refine wb_Match (by omega) ?_ | refine wb_Law (by omega) ?_ | refine wb_Book (by omega) ?_ | refine wb_Ground (by omega) ?_ | refine wb_Text2 (by omega) ?_ | refine wb_Text4 (by omega) ?_ | refine wb_Odds (by omega) ?_)) (by repeat' (first | exact hB.up (by omega) | refine RBq.cons (by omega) ?_ | refine rb_Match (by omega) ?_ | refine rb_Law (by omega) ?_ | refine rb_Book (by omega) ?_ | refine rb_Ground (by omega) ?_ | refine rb_Text2 (by omega) ?_ | refine rb_Text4 (by omega) ?_ | refine rb_Odds (by omega) ?_)) rfl rfl iX5 tyX5 tyX5_ok dvX5 (gd q370 rfl) (gd q317 rfl) (gd q139 rfl) (by decide) (by decide) (dk DX8_init 20 rfl) (fun H hR => ?_)
  refine k_cells (k := 6) (n' := 171) rfl rfl ?_
  have hR := k_at (n' := 27) hR rfl
  refine lv_dup hx hb (dk DX8_init 21 rfl) rfl ?_
  refine r_callKN (o := 26) C hAO hR (by omega) (K_Match l hl0 G 26 rfl rfl _ _ (by repeat' (first | exact hB.up (by omega) | refine RBq.cons (by omega) ?_ | refine rb_Match (by omega) ?_ | refine rb_Law (by omega) ?_ | refine rb_Book (by omega) ?_ | refine rb_Ground (by omega) ?_ | refine rb_Text2 (by omega) ?_ | refine rb_Text4 (by omega) ?_ | refine rb_Odds (by omega) ?_)) (by repeat' (first | exact hW.up (by omega) | refine WB_.cons (by omega) ?_ | refine wb_Match (by omega) ?_ | refine wb_Law (by omega) ?_ | refine wb_Book (by omega) ?_ | refine wb_Ground (by omega) ?_ | refine wb_Text2 (by omega) ?_ | refine wb_Text4 (by omega) ?_ | refine wb_Odds (by omega) ?_))) (by omega) (by decide) (by decide) wkX8_22 (Nat.le_of_ble_eq_true rfl) hl.1 ⟨by decide, by decide⟩ (dk DX8_init 22 rfl) (fun H locs hR => ?_)
  refine k_cells (k := 7) (n' := 234) rfl rfl ?_
  have hR := k_at (n' := 28) hR rfl
  refine r_aastR (o := 21) (k := 26) (j := 2) C hR ⟨by decide, rfl⟩ ⟨by decide, rfl⟩ rfl (by decide) (dk DX8_init 23 rfl) (fun H locs hR => ?_)
  refine lv_iinc (v := (3 : Int32)) (lv' := [(1, .int (3 : Int32)), (0, .ref (G.2.1 + 20))]) hx hb (dk DX8_init 24 rfl) hl (k := 0) rfl (by decide) (by decide) rfl (fun ls hl => ?_)
  refine lv_goto (tgt := 25) hx hb (dk DX8_init 25 rfl) (by decide) ?_
  refine lv_iload_n hx hb (dk DX8_init 14 rfl) rfl (lv_at hl 0 rfl) ?_
  refine lv_bipush (v := (12 : Int32)) hx hb (dk DX8_init 15 rfl) (by decide) ?_
  refine lv_icmp_ge (tgt := 50) hx hb (dk DX8_init 16 rfl) (by decide) (fun h => absurd h (by decide)) (fun _ => ?_)
  refine lv_aload_n hx hb (dk DX8_init 17 rfl) rfl (lv_at hl 1 rfl) ?_
  refine gX8_18 (o := 20) (k := 21) C hR ⟨by decide, rfl⟩ rfl (dk DX8_init 18 rfl) ?_
  refine lv_iload_n hx hb (dk DX8_init 19 rfl) rfl (lv_at hl 0 rfl) ?_
  refine r_new C hR (by omega) hG (by repeat' (first | exact hW.up (by omega) | refine WB_.cons (by omega) ?_ | refine wb_Match (by omega) ?_ | refine wb_Law (by omega) ?_ | refine wb_Book (by omega) ?_ | refine wb_Ground (by omega) ?_ | refine wb_Text2 (by omega) ?_ | refine wb_Text4 (by omega) ?_ | refine wb_Odds (by omega) ?_)) (by repeat' (first | exact hB.up (by omega) | refine RBq.cons (by omega) ?_ | refine rb_Match (by omega) ?_ | refine rb_Law (by omega) ?_ | refine rb_Book (by omega) ?_ | refine rb_Ground (by omega) ?_ | refine rb_Text2 (by omega) ?_ | refine rb_Text4 (by omega) ?_ | refine rb_Odds (by omega) ?_)) rfl rfl iX5 tyX5 tyX5_ok dvX5 (gd q370 rfl) (gd q317 rfl) (gd q139 rfl) (by decide) (by decide) (dk DX8_init 20 rfl) (fun H hR => ?_)
  refine k_cells (k := 8) (n' := 245) rfl rfl ?_
  have hR := k_at (n' := 29) hR rfl
  refine lv_dup hx hb (dk DX8_init 21 rfl) rfl ?_
  refine r_callKN (o := 28) C hAO hR (by omega) (K_Match l hl0 G 28 rfl rfl _ _ (by repeat' (first | exact hB.up (by omega) | refine RBq.cons (by omega) ?_ | refine rb_Match (by omega) ?_ | refine rb_Law (by omega) ?_ | refine rb_Book (by omega) ?_ | refine rb_Ground (by omega) ?_ | refine rb_Text2 (by omega) ?_ | refine rb_Text4 (by omega) ?_ | refine rb_Odds (by omega) ?_)) (by repeat' (first | exact hW.up (by omega) | refine WB_.cons (by omega) ?_ | refine wb_Match (by omega) ?_ | refine wb_Law (by omega) ?_ | refine wb_Book (by omega) ?_ | refine wb_Ground (by omega) ?_ | refine wb_Text2 (by omega) ?_ | refine wb_Text4 (by omega) ?_ | refine wb_Odds (by omega) ?_))) (by omega) (by decide) (by decide) wkX8_22 (Nat.le_of_ble_eq_true rfl) hl.1 ⟨by decide, by decide⟩ (dk DX8_init 22 rfl) (fun H locs hR => ?_)
  refine k_cells (k := 9) (n' := 308) rfl rfl ?_
  have hR := k_at (n' := 30) hR rfl
  refine r_aastR (o := 21) (k := 28) (j := 3) C hR ⟨by decide, rfl⟩ ⟨by decide, rfl⟩ rfl (by decide) (dk DX8_init 23 rfl) (fun H locs hR => ?_)
  refine lv_iinc (v := (4 : Int32)) (lv' := [(1, .int (4 : Int32)), (0, .ref (G.2.1 + 20))]) hx hb (dk DX8_init 24 rfl) hl (k := 0) rfl (by decide) (by decide) rfl (fun ls hl => ?_)
  refine lv_goto (tgt := 25) hx hb (dk DX8_init 25 rfl) (by decide) ?_
  refine lv_iload_n hx hb (dk DX8_init 14 rfl) rfl (lv_at hl 0 rfl) ?_
  refine lv_bipush (v := (12 : Int32)) hx hb (dk DX8_init 15 rfl) (by decide) ?_
  refine lv_icmp_ge (tgt := 50) hx hb (dk DX8_init 16 rfl) (by decide) (fun h => absurd h (by decide)) (fun _ => ?_)
  refine lv_aload_n hx hb (dk DX8_init 17 rfl) rfl (lv_at hl 1 rfl) ?_
  refine gX8_18 (o := 20) (k := 21) C hR ⟨by decide, rfl⟩ rfl (dk DX8_init 18 rfl) ?_
  refine lv_iload_n hx hb (dk DX8_init 19 rfl) rfl (lv_at hl 0 rfl) ?_
  refine r_new C hR (by omega) hG (by repeat' (first | exact hW.up (by omega) | refine WB_.cons (by omega) ?_ | refine wb_Match (by omega) ?_ | refine wb_Law (by omega) ?_ | refine wb_Book (by omega) ?_ | refine wb_Ground (by omega) ?_ | refine wb_Text2 (by omega) ?_ | refine wb_Text4 (by omega) ?_ | refine wb_Odds (by omega) ?_)) (by repeat' (first | exact hB.up (by omega) | refine RBq.cons (by omega) ?_ | refine rb_Match (by omega) ?_ | refine rb_Law (by omega) ?_ | refine rb_Book (by omega) ?_ | refine rb_Ground (by omega) ?_ | refine rb_Text2 (by omega) ?_ | refine rb_Text4 (by omega) ?_ | refine rb_Odds (by omega) ?_)) rfl rfl iX5 tyX5 tyX5_ok dvX5 (gd q370 rfl) (gd q317 rfl) (gd q139 rfl) (by decide) (by decide) (dk DX8_init 20 rfl) (fun H hR => ?_)
  refine k_cells (k := 10) (n' := 319) rfl rfl ?_
  have hR := k_at (n' := 31) hR rfl
  refine lv_dup hx hb (dk DX8_init 21 rfl) rfl ?_
  refine r_callKN (o := 30) C hAO hR (by omega) (K_Match l hl0 G 30 rfl rfl _ _ (by repeat' (first | exact hB.up (by omega) | refine RBq.cons (by omega) ?_ | refine rb_Match (by omega) ?_ | refine rb_Law (by omega) ?_ | refine rb_Book (by omega) ?_ | refine rb_Ground (by omega) ?_ | refine rb_Text2 (by omega) ?_ | refine rb_Text4 (by omega) ?_ | refine rb_Odds (by omega) ?_)) (by repeat' (first | exact hW.up (by omega) | refine WB_.cons (by omega) ?_ | refine wb_Match (by omega) ?_ | refine wb_Law (by omega) ?_ | refine wb_Book (by omega) ?_ | refine wb_Ground (by omega) ?_ | refine wb_Text2 (by omega) ?_ | refine wb_Text4 (by omega) ?_ | refine wb_Odds (by omega) ?_))) (by omega) (by decide) (by decide) wkX8_22 (Nat.le_of_ble_eq_true rfl) hl.1 ⟨by decide, by decide⟩ (dk DX8_init 22 rfl) (fun H locs hR => ?_)
  refine k_cells (k := 11) (n' := 382) rfl rfl ?_
  have hR := k_at (n' := 32) hR rfl
  refine r_aastR (o := 21) (k := 30) (j := 4) C hR ⟨by decide, rfl⟩ ⟨by decide, rfl⟩ rfl (by decide) (dk DX8_init 23 rfl) (fun H locs hR => ?_)
  refine lv_iinc (v := (5 : Int32)) (lv' := [(1, .int (5 : Int32)), (0, .ref (G.2.1 + 20))]) hx hb (dk DX8_init 24 rfl) hl (k := 0) rfl (by decide) (by decide) rfl (fun ls hl => ?_)
  refine lv_goto (tgt := 25) hx hb (dk DX8_init 25 rfl) (by decide) ?_
  refine lv_iload_n hx hb (dk DX8_init 14 rfl) rfl (lv_at hl 0 rfl) ?_
  refine lv_bipush (v := (12 : Int32)) hx hb (dk DX8_init 15 rfl) (by decide) ?_
  refine lv_icmp_ge (tgt := 50) hx hb (dk DX8_init 16 rfl) (by decide) (fun h => absurd h (by decide)) (fun _ => ?_)
  refine lv_aload_n hx hb (dk DX8_init 17 rfl) rfl (lv_at hl 1 rfl) ?_
  refine gX8_18 (o := 20) (k := 21) C hR ⟨by decide, rfl⟩ rfl (dk DX8_init 18 rfl) ?_
  refine lv_iload_n hx hb (dk DX8_init 19 rfl) rfl (lv_at hl 0 rfl) ?_
  refine r_new C hR (by omega) hG (by repeat' (first | exact hW.up (by omega) | refine WB_.cons (by omega) ?_ | refine wb_Match (by omega) ?_ | refine wb_Law (by omega) ?_ | refine wb_Book (by omega) ?_ | refine wb_Ground (by omega) ?_ | refine wb_Text2 (by omega) ?_ | refine wb_Text4 (by omega) ?_ | refine wb_Odds (by omega) ?_)) (by repeat' (first | exact hB.up (by omega) | refine RBq.cons (by omega) ?_ | refine rb_Match (by omega) ?_ | refine rb_Law (by omega) ?_ | refine rb_Book (by omega) ?_ | refine rb_Ground (by omega) ?_ | refine rb_Text2 (by omega) ?_ | refine rb_Text4 (by omega) ?_ | refine rb_Odds (by omega) ?_)) rfl rfl iX5 tyX5 tyX5_ok dvX5 (gd q370 rfl) (gd q317 rfl) (gd q139 rfl) (by decide) (by decide) (dk DX8_init 20 rfl) (fun H hR => ?_)
  refine k_cells (k := 12) (n' := 393) rfl rfl ?_
  have hR := k_at (n' := 33) hR rfl
  refine lv_dup hx hb (dk DX8_init 21 rfl) rfl ?_
  refine r_callKN (o := 32) C hAO hR (by omega) (K_Match l hl0 G 32 rfl rfl _ _ (by repeat' (first | exact hB.up (by omega) | refine RBq.cons (by omega) ?_ | refine rb_Match (by omega) ?_ | refine rb_Law (by omega) ?_ | refine rb_Book (by omega) ?_ | refine rb_Ground (by omega) ?_ | refine rb_Text2 (by omega) ?_ | refine rb_Text4 (by omega) ?_ | refine rb_Odds (by omega) ?_)) (by repeat' (first | exact hW.up (by omega) | refine WB_.cons (by omega) ?_ | refine wb_Match (by omega) ?_ | refine wb_Law (by omega) ?_ | refine wb_Book (by omega) ?_ | refine wb_Ground (by omega) ?_ | refine wb_Text2 (by omega) ?_ | refine wb_Text4 (by omega) ?_ | refine wb_Odds (by omega) ?_))) (by omega) (by decide) (by decide) wkX8_22 (Nat.le_of_ble_eq_true rfl) hl.1 ⟨by decide, by decide⟩ (dk DX8_init 22 rfl) (fun H locs hR => ?_)
  refine k_cells (k := 13) (n' := 456) rfl rfl ?_
  have hR := k_at (n' := 34) hR rfl
  refine r_aastR (o := 21) (k := 32) (j := 5) C hR ⟨by decide, rfl⟩ ⟨by decide, rfl⟩ rfl (by decide) (dk DX8_init 23 rfl) (fun H locs hR => ?_)
  refine lv_iinc (v := (6 : Int32)) (lv' := [(1, .int (6 : Int32)), (0, .ref (G.2.1 + 20))]) hx hb (dk DX8_init 24 rfl) hl (k := 0) rfl (by decide) (by decide) rfl (fun ls hl => ?_)
  refine lv_goto (tgt := 25) hx hb (dk DX8_init 25 rfl) (by decide) ?_
  refine lv_iload_n hx hb (dk DX8_init 14 rfl) rfl (lv_at hl 0 rfl) ?_
  refine lv_bipush (v := (12 : Int32)) hx hb (dk DX8_init 15 rfl) (by decide) ?_
  refine lv_icmp_ge (tgt := 50) hx hb (dk DX8_init 16 rfl) (by decide) (fun h => absurd h (by decide)) (fun _ => ?_)
  refine lv_aload_n hx hb (dk DX8_init 17 rfl) rfl (lv_at hl 1 rfl) ?_
  refine gX8_18 (o := 20) (k := 21) C hR ⟨by decide, rfl⟩ rfl (dk DX8_init 18 rfl) ?_
  refine lv_iload_n hx hb (dk DX8_init 19 rfl) rfl (lv_at hl 0 rfl) ?_
  refine r_new C hR (by omega) hG (by repeat' (first | exact hW.up (by omega) | refine WB_.cons (by omega) ?_ | refine wb_Match (by omega) ?_ | refine wb_Law (by omega) ?_ | refine wb_Book (by omega) ?_ | refine wb_Ground (by omega) ?_ | refine wb_Text2 (by omega) ?_ | refine wb_Text4 (by omega) ?_ | refine wb_Odds (by omega) ?_)) (by repeat' (first | exact hB.up (by omega) | refine RBq.cons (by omega) ?_ | refine rb_Match (by omega) ?_ | refine rb_Law (by omega) ?_ | refine rb_Book (by omega) ?_ | refine rb_Ground (by omega) ?_ | refine rb_Text2 (by omega) ?_ | refine rb_Text4 (by omega) ?_ | refine rb_Odds (by omega) ?_)) rfl rfl iX5 tyX5 tyX5_ok dvX5 (gd q370 rfl) (gd q317 rfl) (gd q139 rfl) (by decide) (by decide) (dk DX8_init 20 rfl) (fun H hR => ?_)
  refine k_cells (k := 14) (n' := 467) rfl rfl ?_
  have hR := k_at (n' := 35) hR rfl
  refine lv_dup hx hb (dk DX8_init 21 rfl) rfl ?_
  refine r_callKN (o := 34) C hAO hR (by omega) (K_Match l hl0 G 34 rfl rfl _ _ (by repeat' (first | exact hB.up (by omega) | refine RBq.cons (by omega) ?_ | refine rb_Match (by omega) ?_ | refine rb_Law (by omega) ?_ | refine rb_Book (by omega) ?_ | refine rb_Ground (by omega) ?_ | refine rb_Text2 (by omega) ?_ | refine rb_Text4 (by omega) ?_ | refine rb_Odds (by omega) ?_)) (by repeat' (first | exact hW.up (by omega) | refine WB_.cons (by omega) ?_ | refine wb_Match (by omega) ?_ | refine wb_Law (by omega) ?_ | refine wb_Book (by omega) ?_ | refine wb_Ground (by omega) ?_ | refine wb_Text2 (by omega) ?_ | refine wb_Text4 (by omega) ?_ | refine wb_Odds (by omega) ?_))) (by omega) (by decide) (by decide) wkX8_22 (Nat.le_of_ble_eq_true rfl) hl.1 ⟨by decide, by decide⟩ (dk DX8_init 22 rfl) (fun H locs hR => ?_)
  refine k_cells (k := 15) (n' := 530) rfl rfl ?_
  have hR := k_at (n' := 36) hR rfl
  refine r_aastR (o := 21) (k := 34) (j := 6) C hR ⟨by decide, rfl⟩ ⟨by decide, rfl⟩ rfl (by decide) (dk DX8_init 23 rfl) (fun H locs hR => ?_)
  refine lv_iinc (v := (7 : Int32)) (lv' := [(1, .int (7 : Int32)), (0, .ref (G.2.1 + 20))]) hx hb (dk DX8_init 24 rfl) hl (k := 0) rfl (by decide) (by decide) rfl (fun ls hl => ?_)
  refine lv_goto (tgt := 25) hx hb (dk DX8_init 25 rfl) (by decide) ?_
  refine lv_iload_n hx hb (dk DX8_init 14 rfl) rfl (lv_at hl 0 rfl) ?_
  refine lv_bipush (v := (12 : Int32)) hx hb (dk DX8_init 15 rfl) (by decide) ?_
  refine lv_icmp_ge (tgt := 50) hx hb (dk DX8_init 16 rfl) (by decide) (fun h => absurd h (by decide)) (fun _ => ?_)
  refine lv_aload_n hx hb (dk DX8_init 17 rfl) rfl (lv_at hl 1 rfl) ?_
  refine gX8_18 (o := 20) (k := 21) C hR ⟨by decide, rfl⟩ rfl (dk DX8_init 18 rfl) ?_
  refine lv_iload_n hx hb (dk DX8_init 19 rfl) rfl (lv_at hl 0 rfl) ?_
  refine r_new C hR (by omega) hG (by repeat' (first | exact hW.up (by omega) | refine WB_.cons (by omega) ?_ | refine wb_Match (by omega) ?_ | refine wb_Law (by omega) ?_ | refine wb_Book (by omega) ?_ | refine wb_Ground (by omega) ?_ | refine wb_Text2 (by omega) ?_ | refine wb_Text4 (by omega) ?_ | refine wb_Odds (by omega) ?_)) (by repeat' (first | exact hB.up (by omega) | refine RBq.cons (by omega) ?_ | refine rb_Match (by omega) ?_ | refine rb_Law (by omega) ?_ | refine rb_Book (by omega) ?_ | refine rb_Ground (by omega) ?_ | refine rb_Text2 (by omega) ?_ | refine rb_Text4 (by omega) ?_ | refine rb_Odds (by omega) ?_)) rfl rfl iX5 tyX5 tyX5_ok dvX5 (gd q370 rfl) (gd q317 rfl) (gd q139 rfl) (by decide) (by decide) (dk DX8_init 20 rfl) (fun H hR => ?_)
  refine k_cells (k := 16) (n' := 541) rfl rfl ?_
  have hR := k_at (n' := 37) hR rfl
  refine lv_dup hx hb (dk DX8_init 21 rfl) rfl ?_
  refine r_callKN (o := 36) C hAO hR (by omega) (K_Match l hl0 G 36 rfl rfl _ _ (by repeat' (first | exact hB.up (by omega) | refine RBq.cons (by omega) ?_ | refine rb_Match (by omega) ?_ | refine rb_Law (by omega) ?_ | refine rb_Book (by omega) ?_ | refine rb_Ground (by omega) ?_ | refine rb_Text2 (by omega) ?_ | refine rb_Text4 (by omega) ?_ | refine rb_Odds (by omega) ?_)) (by repeat' (first | exact hW.up (by omega) | refine WB_.cons (by omega) ?_ | refine wb_Match (by omega) ?_ | refine wb_Law (by omega) ?_ | refine wb_Book (by omega) ?_ | refine wb_Ground (by omega) ?_ | refine wb_Text2 (by omega) ?_ | refine wb_Text4 (by omega) ?_ | refine wb_Odds (by omega) ?_))) (by omega) (by decide) (by decide) wkX8_22 (Nat.le_of_ble_eq_true rfl) hl.1 ⟨by decide, by decide⟩ (dk DX8_init 22 rfl) (fun H locs hR => ?_)
  refine k_cells (k := 17) (n' := 604) rfl rfl ?_
  have hR := k_at (n' := 38) hR rfl
  refine r_aastR (o := 21) (k := 36) (j := 7) C hR ⟨by decide, rfl⟩ ⟨by decide, rfl⟩ rfl (by decide) (dk DX8_init 23 rfl) (fun H locs hR => ?_)
  refine lv_iinc (v := (8 : Int32)) (lv' := [(1, .int (8 : Int32)), (0, .ref (G.2.1 + 20))]) hx hb (dk DX8_init 24 rfl) hl (k := 0) rfl (by decide) (by decide) rfl (fun ls hl => ?_)
  refine lv_goto (tgt := 25) hx hb (dk DX8_init 25 rfl) (by decide) ?_
  refine lv_iload_n hx hb (dk DX8_init 14 rfl) rfl (lv_at hl 0 rfl) ?_
  refine lv_bipush (v := (12 : Int32)) hx hb (dk DX8_init 15 rfl) (by decide) ?_
  refine lv_icmp_ge (tgt := 50) hx hb (dk DX8_init 16 rfl) (by decide) (fun h => absurd h (by decide)) (fun _ => ?_)
  refine lv_aload_n hx hb (dk DX8_init 17 rfl) rfl (lv_at hl 1 rfl) ?_
  refine gX8_18 (o := 20) (k := 21) C hR ⟨by decide, rfl⟩ rfl (dk DX8_init 18 rfl) ?_
  refine lv_iload_n hx hb (dk DX8_init 19 rfl) rfl (lv_at hl 0 rfl) ?_
  refine r_new C hR (by omega) hG (by repeat' (first | exact hW.up (by omega) | refine WB_.cons (by omega) ?_ | refine wb_Match (by omega) ?_ | refine wb_Law (by omega) ?_ | refine wb_Book (by omega) ?_ | refine wb_Ground (by omega) ?_ | refine wb_Text2 (by omega) ?_ | refine wb_Text4 (by omega) ?_ | refine wb_Odds (by omega) ?_)) (by repeat' (first | exact hB.up (by omega) | refine RBq.cons (by omega) ?_ | refine rb_Match (by omega) ?_ | refine rb_Law (by omega) ?_ | refine rb_Book (by omega) ?_ | refine rb_Ground (by omega) ?_ | refine rb_Text2 (by omega) ?_ | refine rb_Text4 (by omega) ?_ | refine rb_Odds (by omega) ?_)) rfl rfl iX5 tyX5 tyX5_ok dvX5 (gd q370 rfl) (gd q317 rfl) (gd q139 rfl) (by decide) (by decide) (dk DX8_init 20 rfl) (fun H hR => ?_)
  refine k_cells (k := 18) (n' := 615) rfl rfl ?_
  have hR := k_at (n' := 39) hR rfl
  refine lv_dup hx hb (dk DX8_init 21 rfl) rfl ?_
  refine r_callKN (o := 38) C hAO hR (by omega) (K_Match l hl0 G 38 rfl rfl _ _ (by repeat' (first | exact hB.up (by omega) | refine RBq.cons (by omega) ?_ | refine rb_Match (by omega) ?_ | refine rb_Law (by omega) ?_ | refine rb_Book (by omega) ?_ | refine rb_Ground (by omega) ?_ | refine rb_Text2 (by omega) ?_ | refine rb_Text4 (by omega) ?_ | refine rb_Odds (by omega) ?_)) (by repeat' (first | exact hW.up (by omega) | refine WB_.cons (by omega) ?_ | refine wb_Match (by omega) ?_ | refine wb_Law (by omega) ?_ | refine wb_Book (by omega) ?_ | refine wb_Ground (by omega) ?_ | refine wb_Text2 (by omega) ?_ | refine wb_Text4 (by omega) ?_ | refine wb_Odds (by omega) ?_))) (by omega) (by decide) (by decide) wkX8_22 (Nat.le_of_ble_eq_true rfl) hl.1 ⟨by decide, by decide⟩ (dk DX8_init 22 rfl) (fun H locs hR => ?_)
  refine k_cells (k := 19) (n' := 678) rfl rfl ?_
  have hR := k_at (n' := 40) hR rfl
  refine r_aastR (o := 21) (k := 38) (j := 8) C hR ⟨by decide, rfl⟩ ⟨by decide, rfl⟩ rfl (by decide) (dk DX8_init 23 rfl) (fun H locs hR => ?_)
  refine lv_iinc (v := (9 : Int32)) (lv' := [(1, .int (9 : Int32)), (0, .ref (G.2.1 + 20))]) hx hb (dk DX8_init 24 rfl) hl (k := 0) rfl (by decide) (by decide) rfl (fun ls hl => ?_)
  refine lv_goto (tgt := 25) hx hb (dk DX8_init 25 rfl) (by decide) ?_
  refine lv_iload_n hx hb (dk DX8_init 14 rfl) rfl (lv_at hl 0 rfl) ?_
  refine lv_bipush (v := (12 : Int32)) hx hb (dk DX8_init 15 rfl) (by decide) ?_
  refine lv_icmp_ge (tgt := 50) hx hb (dk DX8_init 16 rfl) (by decide) (fun h => absurd h (by decide)) (fun _ => ?_)
  refine lv_aload_n hx hb (dk DX8_init 17 rfl) rfl (lv_at hl 1 rfl) ?_
  refine gX8_18 (o := 20) (k := 21) C hR ⟨by decide, rfl⟩ rfl (dk DX8_init 18 rfl) ?_
  refine lv_iload_n hx hb (dk DX8_init 19 rfl) rfl (lv_at hl 0 rfl) ?_
  refine r_new C hR (by omega) hG (by repeat' (first | exact hW.up (by omega) | refine WB_.cons (by omega) ?_ | refine wb_Match (by omega) ?_ | refine wb_Law (by omega) ?_ | refine wb_Book (by omega) ?_ | refine wb_Ground (by omega) ?_ | refine wb_Text2 (by omega) ?_ | refine wb_Text4 (by omega) ?_ | refine wb_Odds (by omega) ?_)) (by repeat' (first | exact hB.up (by omega) | refine RBq.cons (by omega) ?_ | refine rb_Match (by omega) ?_ | refine rb_Law (by omega) ?_ | refine rb_Book (by omega) ?_ | refine rb_Ground (by omega) ?_ | refine rb_Text2 (by omega) ?_ | refine rb_Text4 (by omega) ?_ | refine rb_Odds (by omega) ?_)) rfl rfl iX5 tyX5 tyX5_ok dvX5 (gd q370 rfl) (gd q317 rfl) (gd q139 rfl) (by decide) (by decide) (dk DX8_init 20 rfl) (fun H hR => ?_)
  refine k_cells (k := 20) (n' := 689) rfl rfl ?_
  have hR := k_at (n' := 41) hR rfl
  refine lv_dup hx hb (dk DX8_init 21 rfl) rfl ?_
  refine r_callKN (o := 40) C hAO hR (by omega) (K_Match l hl0 G 40 rfl rfl _ _ (by repeat' (first | exact hB.up (by omega) | refine RBq.cons (by omega) ?_ | refine rb_Match (by omega) ?_ | refine rb_Law (by omega) ?_ | refine rb_Book (by omega) ?_ | refine rb_Ground (by omega) ?_ | refine rb_Text2 (by omega) ?_ | refine rb_Text4 (by omega) ?_ | refine rb_Odds (by omega) ?_)) (by repeat' (first | exact hW.up (by omega) | refine WB_.cons (by omega) ?_ | refine wb_Match (by omega) ?_ | refine wb_Law (by omega) ?_ | refine wb_Book (by omega) ?_ | refine wb_Ground (by omega) ?_ | refine wb_Text2 (by omega) ?_ | refine wb_Text4 (by omega) ?_ | refine wb_Odds (by omega) ?_))) (by omega) (by decide) (by decide) wkX8_22 (Nat.le_of_ble_eq_true rfl) hl.1 ⟨by decide, by decide⟩ (dk DX8_init 22 rfl) (fun H locs hR => ?_)
  refine k_cells (k := 21) (n' := 752) rfl rfl ?_
  have hR := k_at (n' := 42) hR rfl
  refine r_aastR (o := 21) (k := 40) (j := 9) C hR ⟨by decide, rfl⟩ ⟨by decide, rfl⟩ rfl (by decide) (dk DX8_init 23 rfl) (fun H locs hR => ?_)
  refine lv_iinc (v := (10 : Int32)) (lv' := [(1, .int (10 : Int32)), (0, .ref (G.2.1 + 20))]) hx hb (dk DX8_init 24 rfl) hl (k := 0) rfl (by decide) (by decide) rfl (fun ls hl => ?_)
  refine lv_goto (tgt := 25) hx hb (dk DX8_init 25 rfl) (by decide) ?_
  refine lv_iload_n hx hb (dk DX8_init 14 rfl) rfl (lv_at hl 0 rfl) ?_
  refine lv_bipush (v := (12 : Int32)) hx hb (dk DX8_init 15 rfl) (by decide) ?_
  refine lv_icmp_ge (tgt := 50) hx hb (dk DX8_init 16 rfl) (by decide) (fun h => absurd h (by decide)) (fun _ => ?_)
  refine lv_aload_n hx hb (dk DX8_init 17 rfl) rfl (lv_at hl 1 rfl) ?_
  refine gX8_18 (o := 20) (k := 21) C hR ⟨by decide, rfl⟩ rfl (dk DX8_init 18 rfl) ?_
  refine lv_iload_n hx hb (dk DX8_init 19 rfl) rfl (lv_at hl 0 rfl) ?_
  refine r_new C hR (by omega) hG (by repeat' (first | exact hW.up (by omega) | refine WB_.cons (by omega) ?_ | refine wb_Match (by omega) ?_ | refine wb_Law (by omega) ?_ | refine wb_Book (by omega) ?_ | refine wb_Ground (by omega) ?_ | refine wb_Text2 (by omega) ?_ | refine wb_Text4 (by omega) ?_ | refine wb_Odds (by omega) ?_)) (by repeat' (first | exact hB.up (by omega) | refine RBq.cons (by omega) ?_ | refine rb_Match (by omega) ?_ | refine rb_Law (by omega) ?_ | refine rb_Book (by omega) ?_ | refine rb_Ground (by omega) ?_ | refine rb_Text2 (by omega) ?_ | refine rb_Text4 (by omega) ?_ | refine rb_Odds (by omega) ?_)) rfl rfl iX5 tyX5 tyX5_ok dvX5 (gd q370 rfl) (gd q317 rfl) (gd q139 rfl) (by decide) (by decide) (dk DX8_init 20 rfl) (fun H hR => ?_)
  refine k_cells (k := 22) (n' := 763) rfl rfl ?_
  have hR := k_at (n' := 43) hR rfl
  refine lv_dup hx hb (dk DX8_init 21 rfl) rfl ?_
  refine r_callKN (o := 42) C hAO hR (by omega) (K_Match l hl0 G 42 rfl rfl _ _ (by repeat' (first | exact hB.up (by omega) | refine RBq.cons (by omega) ?_ | refine rb_Match (by omega) ?_ | refine rb_Law (by omega) ?_ | refine rb_Book (by omega) ?_ | refine rb_Ground (by omega) ?_ | refine rb_Text2 (by omega) ?_ | refine rb_Text4 (by omega) ?_ | refine rb_Odds (by omega) ?_)) (by repeat' (first | exact hW.up (by omega) | refine WB_.cons (by omega) ?_ | refine wb_Match (by omega) ?_ | refine wb_Law (by omega) ?_ | refine wb_Book (by omega) ?_ | refine wb_Ground (by omega) ?_ | refine wb_Text2 (by omega) ?_ | refine wb_Text4 (by omega) ?_ | refine wb_Odds (by omega) ?_))) (by omega) (by decide) (by decide) wkX8_22 (Nat.le_of_ble_eq_true rfl) hl.1 ⟨by decide, by decide⟩ (dk DX8_init 22 rfl) (fun H locs hR => ?_)
  refine k_cells (k := 23) (n' := 826) rfl rfl ?_
  have hR := k_at (n' := 44) hR rfl
  refine r_aastR (o := 21) (k := 42) (j := 10) C hR ⟨by decide, rfl⟩ ⟨by decide, rfl⟩ rfl (by decide) (dk DX8_init 23 rfl) (fun H locs hR => ?_)
  refine lv_iinc (v := (11 : Int32)) (lv' := [(1, .int (11 : Int32)), (0, .ref (G.2.1 + 20))]) hx hb (dk DX8_init 24 rfl) hl (k := 0) rfl (by decide) (by decide) rfl (fun ls hl => ?_)
  refine lv_goto (tgt := 25) hx hb (dk DX8_init 25 rfl) (by decide) ?_
  refine lv_iload_n hx hb (dk DX8_init 14 rfl) rfl (lv_at hl 0 rfl) ?_
  refine lv_bipush (v := (12 : Int32)) hx hb (dk DX8_init 15 rfl) (by decide) ?_
  refine lv_icmp_ge (tgt := 50) hx hb (dk DX8_init 16 rfl) (by decide) (fun h => absurd h (by decide)) (fun _ => ?_)
  refine lv_aload_n hx hb (dk DX8_init 17 rfl) rfl (lv_at hl 1 rfl) ?_
  refine gX8_18 (o := 20) (k := 21) C hR ⟨by decide, rfl⟩ rfl (dk DX8_init 18 rfl) ?_
  refine lv_iload_n hx hb (dk DX8_init 19 rfl) rfl (lv_at hl 0 rfl) ?_
  refine r_new C hR (by omega) hG (by repeat' (first | exact hW.up (by omega) | refine WB_.cons (by omega) ?_ | refine wb_Match (by omega) ?_ | refine wb_Law (by omega) ?_ | refine wb_Book (by omega) ?_ | refine wb_Ground (by omega) ?_ | refine wb_Text2 (by omega) ?_ | refine wb_Text4 (by omega) ?_ | refine wb_Odds (by omega) ?_)) (by repeat' (first | exact hB.up (by omega) | refine RBq.cons (by omega) ?_ | refine rb_Match (by omega) ?_ | refine rb_Law (by omega) ?_ | refine rb_Book (by omega) ?_ | refine rb_Ground (by omega) ?_ | refine rb_Text2 (by omega) ?_ | refine rb_Text4 (by omega) ?_ | refine rb_Odds (by omega) ?_)) rfl rfl iX5 tyX5 tyX5_ok dvX5 (gd q370 rfl) (gd q317 rfl) (gd q139 rfl) (by decide) (by decide) (dk DX8_init 20 rfl) (fun H hR => ?_)
  refine k_cells (k := 24) (n' := 837) rfl rfl ?_
  have hR := k_at (n' := 45) hR rfl
  refine lv_dup hx hb (dk DX8_init 21 rfl) rfl ?_
  refine r_callKN (o := 44) C hAO hR (by omega) (K_Match l hl0 G 44 rfl rfl _ _ (by repeat' (first | exact hB.up (by omega) | refine RBq.cons (by omega) ?_ | refine rb_Match (by omega) ?_ | refine rb_Law (by omega) ?_ | refine rb_Book (by omega) ?_ | refine rb_Ground (by omega) ?_ | refine rb_Text2 (by omega) ?_ | refine rb_Text4 (by omega) ?_ | refine rb_Odds (by omega) ?_)) (by repeat' (first | exact hW.up (by omega) | refine WB_.cons (by omega) ?_ | refine wb_Match (by omega) ?_ | refine wb_Law (by omega) ?_ | refine wb_Book (by omega) ?_ | refine wb_Ground (by omega) ?_ | refine wb_Text2 (by omega) ?_ | refine wb_Text4 (by omega) ?_ | refine wb_Odds (by omega) ?_))) (by omega) (by decide) (by decide) wkX8_22 (Nat.le_of_ble_eq_true rfl) hl.1 ⟨by decide, by decide⟩ (dk DX8_init 22 rfl) (fun H locs hR => ?_)
  refine k_cells (k := 25) (n' := 900) rfl rfl ?_
  have hR := k_at (n' := 46) hR rfl
  refine r_aastR (o := 21) (k := 44) (j := 11) C hR ⟨by decide, rfl⟩ ⟨by decide, rfl⟩ rfl (by decide) (dk DX8_init 23 rfl) (fun H locs hR => ?_)
  refine lv_iinc (v := (12 : Int32)) (lv' := [(1, .int (12 : Int32)), (0, .ref (G.2.1 + 20))]) hx hb (dk DX8_init 24 rfl) hl (k := 0) rfl (by decide) (by decide) rfl (fun ls hl => ?_)
  refine lv_goto (tgt := 25) hx hb (dk DX8_init 25 rfl) (by decide) ?_
  refine lv_iload_n hx hb (dk DX8_init 14 rfl) rfl (lv_at hl 0 rfl) ?_
  refine lv_bipush (v := (12 : Int32)) hx hb (dk DX8_init 15 rfl) (by decide) ?_
  refine lv_icmp_ge (tgt := 50) hx hb (dk DX8_init 16 rfl) (by decide) (fun _ => ?_) (fun h => absurd (by decide) h)
  exact k_ret C hrt hR (dk DX8_init 26 rfl)
def rGroundText (rl : RL_) : RL_ := ((46, 7, 51) :: (rText2 46 rl))
def wGroundText (wl : WL_) : WL_ := ((46, 10, .inr (.inr (false : Bool))) :: ((46, 9, .inl (0 : Int32)) :: ((46, 8, .inl (0 : Int32)) :: (wText2 46 wl))))
theorem rb_GroundText {rl : RL_} {n : Nat} (hn : 52 ≤ n) (hB : RBq rl n) : RBq (rGroundText rl) n := by
  unfold rGroundText
  repeat' (first | exact hB.up (by omega) | refine RBq.cons (by omega) ?_ | refine rb_Match (by omega) ?_ | refine rb_Law (by omega) ?_ | refine rb_Book (by omega) ?_ | refine rb_Ground (by omega) ?_ | refine rb_Text2 (by omega) ?_ | refine rb_Text4 (by omega) ?_ | refine rb_Odds (by omega) ?_ | refine rb_Past (by omega) ?_)
theorem wb_GroundText {wl : WL_} {n : Nat} (hn : 52 ≤ n) (hB : WB_ wl n) : WB_ (wGroundText wl) n := by
  unfold wGroundText
  repeat' (first | exact hB.up (by omega) | refine WB_.cons (by omega) ?_ | refine wb_Match (by omega) ?_ | refine wb_Law (by omega) ?_ | refine wb_Book (by omega) ?_ | refine wb_Ground (by omega) ?_ | refine wb_Text2 (by omega) ?_ | refine wb_Text4 (by omega) ?_ | refine wb_Odds (by omega) ?_ | refine wb_Past (by omega) ?_)
set_option maxRecDepth 40000 in
set_option maxHeartbeats 4000000 in
theorem K_GroundText (l : Launch) (hl0 : l.stackTraces = false) (G : GG)  (rl : RL_) (wl : WL_) (hB : RBq rl 47) (hW : WB_ wl 47) : Kc l G yX2_init cX2_init 1 2 5 1673 46 47 rl wl (rGroundText rl) (wGroundText wl) := by
  refine Kc_of hl0 (by decide) (by decide) rfl ?_
  intro p e s mid args below meth c ls C hnm hsz hG hAO hrt hl hR
  have hx := C.1.1
  have hb := C.1.2.1
  refine lv_aload_n hx hb (dk DX2_init 0 rfl) rfl (lv_at hl 0 rfl) ?_
  refine r_callKN (o := 46) C hAO hR (by omega) (K_Text2 l hl0 G 46 rfl rfl rfl rfl rfl _ _ (by repeat' (first | exact hB.up (by omega) | refine RBq.cons (by omega) ?_ | refine rb_Match (by omega) ?_ | refine rb_Law (by omega) ?_ | refine rb_Book (by omega) ?_ | refine rb_Ground (by omega) ?_ | refine rb_Text2 (by omega) ?_ | refine rb_Text4 (by omega) ?_ | refine rb_Odds (by omega) ?_ | refine rb_Past (by omega) ?_)) (by repeat' (first | exact hW.up (by omega) | refine WB_.cons (by omega) ?_ | refine wb_Match (by omega) ?_ | refine wb_Law (by omega) ?_ | refine wb_Book (by omega) ?_ | refine wb_Ground (by omega) ?_ | refine wb_Text2 (by omega) ?_ | refine wb_Text4 (by omega) ?_ | refine wb_Odds (by omega) ?_ | refine wb_Past (by omega) ?_))) (by omega) (by decide) (by decide) wkX2_3 (Nat.le_of_ble_eq_true rfl) hl.1 ⟨by decide, by decide⟩ (dk DX2_init 1 rfl) (fun H locs hR => ?_)
  refine k_cells (k := 4) (n' := 1603) rfl rfl ?_
  have hR := k_at (n' := 51) hR rfl
  refine lv_aload_n hx hb (dk DX2_init 2 rfl) rfl (lv_at hl 0 rfl) ?_
  refine lv_bipush (v := (70 : Int32)) hx hb (dk DX2_init 3 rfl) (by decide) ?_
  refine r_newi (N := 70) C hR (by omega) hG (by repeat' (first | exact hW.up (by omega) | refine WB_.cons (by omega) ?_ | refine wb_Match (by omega) ?_ | refine wb_Law (by omega) ?_ | refine wb_Book (by omega) ?_ | refine wb_Ground (by omega) ?_ | refine wb_Text2 (by omega) ?_ | refine wb_Text4 (by omega) ?_ | refine wb_Odds (by omega) ?_ | refine wb_Past (by omega) ?_)) rfl (gd q206 rfl) ⟨by decide, by decide⟩ (by decide) (by decide) (by decide) (dk DX2_init 4 rfl) (fun H hR => ?_)
  refine k_cells (k := 5) (n' := 1673) rfl rfl ?_
  have hR := k_at (n' := 52) hR rfl
  refine r_putR (o := 46) (k := 51) (ci := 2) (j := 7) (ty := tyX2 7) C hnm hR ⟨by decide, rfl⟩ rfl iX2 tyX2 tyX2_ok nmX2 (by decide) (by decide) rfl (gd q393 rfl) (fun _ h => h) rfl rfl (tyX2_ok 7 (by decide)) rfl rfl (dk DX2_init 5 rfl) (fun H locs hR => ?_)
  refine lv_aload_n hx hb (dk DX2_init 6 rfl) rfl (lv_at hl 0 rfl) ?_
  refine lv_iconst (v := (0 : Int32)) hx hb (dk DX2_init 7 rfl) (by decide) ?_
  refine pX2_15 (o := 46) (x := (0 : Int32)) C hR ⟨by decide, rfl⟩ (dk DX2_init 8 rfl) (fun H locs hR => ?_)
  have hR := k_I hR
  refine lv_aload_n hx hb (dk DX2_init 9 rfl) rfl (lv_at hl 0 rfl) ?_
  refine lv_iconst (v := (0 : Int32)) hx hb (dk DX2_init 10 rfl) (by decide) ?_
  refine pX2_19 (o := 46) (x := (0 : Int32)) C hR ⟨by decide, rfl⟩ (dk DX2_init 11 rfl) (fun H locs hR => ?_)
  have hR := k_I hR
  refine lv_aload_n hx hb (dk DX2_init 12 rfl) rfl (lv_at hl 0 rfl) ?_
  refine lv_iconst (v := (0 : Int32)) hx hb (dk DX2_init 13 rfl) (by decide) ?_
  refine pX2_22 (o := 46) (x := (false : Bool)) C hR ⟨by decide, rfl⟩ (dk DX2_init 14 rfl) (fun H locs hR => ?_)
  have hR := k_Z hR
  exact k_ret C hrt hR (dk DX2_init 15 rfl)
def rLawText (rl : RL_) : RL_ := ((52, 7, 57) :: (rLaw 57 (rText4 52 rl)))
def wLawText (wl : WL_) : WL_ := (wLaw 57 (wText4 52 wl))
theorem rb_LawText {rl : RL_} {n : Nat} (hn : 61 ≤ n) (hB : RBq rl n) : RBq (rLawText rl) n := by
  unfold rLawText
  repeat' (first | exact hB.up (by omega) | refine RBq.cons (by omega) ?_ | refine rb_Match (by omega) ?_ | refine rb_Law (by omega) ?_ | refine rb_Book (by omega) ?_ | refine rb_Ground (by omega) ?_ | refine rb_Text2 (by omega) ?_ | refine rb_Text4 (by omega) ?_ | refine rb_Odds (by omega) ?_ | refine rb_Past (by omega) ?_ | refine rb_GroundText (by omega) ?_)
theorem wb_LawText {wl : WL_} {n : Nat} (hn : 61 ≤ n) (hB : WB_ wl n) : WB_ (wLawText wl) n := by
  unfold wLawText
  repeat' (first | exact hB.up (by omega) | refine WB_.cons (by omega) ?_ | refine wb_Match (by omega) ?_ | refine wb_Law (by omega) ?_ | refine wb_Book (by omega) ?_ | refine wb_Ground (by omega) ?_ | refine wb_Text2 (by omega) ?_ | refine wb_Text4 (by omega) ?_ | refine wb_Odds (by omega) ?_ | refine wb_Past (by omega) ?_ | refine wb_GroundText (by omega) ?_)
set_option maxRecDepth 40000 in
set_option maxHeartbeats 4000000 in
theorem K_LawText (l : Launch) (hl0 : l.stackTraces = false) (G : GG)  (rl : RL_) (wl : WL_) (hB : RBq rl 53) (hW : WB_ wl 53) : Kc l G yX4_init cX4_init 1 2 8 2080 52 53 rl wl (rLawText rl) (wLawText wl) := by
  refine Kc_of hl0 (by decide) (by decide) rfl ?_
  intro p e s mid args below meth c ls C hnm hsz hG hAO hrt hl hR
  have hx := C.1.1
  have hb := C.1.2.1
  refine lv_aload_n hx hb (dk DX4_init 0 rfl) rfl (lv_at hl 0 rfl) ?_
  refine r_callKN (o := 52) C hAO hR (by omega) (K_Text4 l hl0 G 52 rfl rfl rfl rfl rfl _ _ (by repeat' (first | exact hB.up (by omega) | refine RBq.cons (by omega) ?_ | refine rb_Match (by omega) ?_ | refine rb_Law (by omega) ?_ | refine rb_Book (by omega) ?_ | refine rb_Ground (by omega) ?_ | refine rb_Text2 (by omega) ?_ | refine rb_Text4 (by omega) ?_ | refine rb_Odds (by omega) ?_ | refine rb_Past (by omega) ?_ | refine rb_GroundText (by omega) ?_)) (by repeat' (first | exact hW.up (by omega) | refine WB_.cons (by omega) ?_ | refine wb_Match (by omega) ?_ | refine wb_Law (by omega) ?_ | refine wb_Book (by omega) ?_ | refine wb_Ground (by omega) ?_ | refine wb_Text2 (by omega) ?_ | refine wb_Text4 (by omega) ?_ | refine wb_Odds (by omega) ?_ | refine wb_Past (by omega) ?_ | refine wb_GroundText (by omega) ?_))) (by omega) (by decide) (by decide) wkX4_3 (Nat.le_of_ble_eq_true rfl) hl.1 ⟨by decide, by decide⟩ (dk DX4_init 1 rfl) (fun H locs hR => ?_)
  refine k_cells (k := 4) (n' := 1603) rfl rfl ?_
  have hR := k_at (n' := 57) hR rfl
  refine lv_aload_n hx hb (dk DX4_init 2 rfl) rfl (lv_at hl 0 rfl) ?_
  refine r_new C hR (by omega) hG (by repeat' (first | exact hW.up (by omega) | refine WB_.cons (by omega) ?_ | refine wb_Match (by omega) ?_ | refine wb_Law (by omega) ?_ | refine wb_Book (by omega) ?_ | refine wb_Ground (by omega) ?_ | refine wb_Text2 (by omega) ?_ | refine wb_Text4 (by omega) ?_ | refine wb_Odds (by omega) ?_ | refine wb_Past (by omega) ?_ | refine wb_GroundText (by omega) ?_)) (by repeat' (first | exact hB.up (by omega) | refine RBq.cons (by omega) ?_ | refine rb_Match (by omega) ?_ | refine rb_Law (by omega) ?_ | refine rb_Book (by omega) ?_ | refine rb_Ground (by omega) ?_ | refine rb_Text2 (by omega) ?_ | refine rb_Text4 (by omega) ?_ | refine rb_Odds (by omega) ?_ | refine rb_Past (by omega) ?_ | refine rb_GroundText (by omega) ?_)) rfl rfl iX3 tyX3 tyX3_ok dvX3 (gd q437 rfl) (gd q181 rfl) (gd q137 rfl) (by decide) (by decide) (dk DX4_init 3 rfl) (fun H hR => ?_)
  refine k_cells (k := 5) (n' := 1608) rfl rfl ?_
  have hR := k_at (n' := 58) hR rfl
  refine lv_dup hx hb (dk DX4_init 4 rfl) rfl ?_
  refine r_callKN (o := 57) C hAO hR (by omega) (K_Law l hl0 G 57 rfl rfl rfl rfl _ _ (by repeat' (first | exact hB.up (by omega) | refine RBq.cons (by omega) ?_ | refine rb_Match (by omega) ?_ | refine rb_Law (by omega) ?_ | refine rb_Book (by omega) ?_ | refine rb_Ground (by omega) ?_ | refine rb_Text2 (by omega) ?_ | refine rb_Text4 (by omega) ?_ | refine rb_Odds (by omega) ?_ | refine rb_Past (by omega) ?_ | refine rb_GroundText (by omega) ?_)) (by repeat' (first | exact hW.up (by omega) | refine WB_.cons (by omega) ?_ | refine wb_Match (by omega) ?_ | refine wb_Law (by omega) ?_ | refine wb_Book (by omega) ?_ | refine wb_Ground (by omega) ?_ | refine wb_Text2 (by omega) ?_ | refine wb_Text4 (by omega) ?_ | refine wb_Odds (by omega) ?_ | refine wb_Past (by omega) ?_ | refine wb_GroundText (by omega) ?_))) (by omega) (by decide) (by decide) wkX4_11 (Nat.le_of_ble_eq_true rfl) hl.1 ⟨by decide, by decide⟩ (dk DX4_init 5 rfl) (fun H locs hR => ?_)
  refine k_cells (k := 8) (n' := 2080) rfl rfl ?_
  have hR := k_at (n' := 61) hR rfl
  refine r_putR (o := 52) (k := 57) (ci := 4) (j := 7) (ty := tyX4 7) C hnm hR ⟨by decide, rfl⟩ rfl iX4 tyX4 tyX4_ok nmX4 (by decide) (by decide) rfl (gd q439 rfl) (fun _ h => h) rfl rfl (tyX4_ok 7 (by decide)) rfl rfl (dk DX4_init 6 rfl) (fun H locs hR => ?_)
  exact k_ret C hrt hR (dk DX4_init 7 rfl)
def rMornings (rl : RL_) : RL_ := ((61, 1, 63) :: ((61, 0, 62) :: rl))
def wMornings (wl : WL_) : WL_ := wl
theorem rb_Mornings {rl : RL_} {n : Nat} (hn : 64 ≤ n) (hB : RBq rl n) : RBq (rMornings rl) n := by
  unfold rMornings
  repeat' (first | exact hB.up (by omega) | refine RBq.cons (by omega) ?_ | refine rb_Match (by omega) ?_ | refine rb_Law (by omega) ?_ | refine rb_Book (by omega) ?_ | refine rb_Ground (by omega) ?_ | refine rb_Text2 (by omega) ?_ | refine rb_Text4 (by omega) ?_ | refine rb_Odds (by omega) ?_ | refine rb_Past (by omega) ?_ | refine rb_GroundText (by omega) ?_ | refine rb_LawText (by omega) ?_)
theorem wb_Mornings {wl : WL_} {n : Nat} (hn : 64 ≤ n) (hB : WB_ wl n) : WB_ (wMornings wl) n := by
  unfold wMornings
  repeat' (first | exact hB.up (by omega) | refine WB_.cons (by omega) ?_ | refine wb_Match (by omega) ?_ | refine wb_Law (by omega) ?_ | refine wb_Book (by omega) ?_ | refine wb_Ground (by omega) ?_ | refine wb_Text2 (by omega) ?_ | refine wb_Text4 (by omega) ?_ | refine wb_Odds (by omega) ?_ | refine wb_Past (by omega) ?_ | refine wb_GroundText (by omega) ?_ | refine wb_LawText (by omega) ?_)
set_option maxRecDepth 40000 in
set_option maxHeartbeats 4000000 in
theorem K_Mornings (l : Launch) (hl0 : l.stackTraces = false) (G : GG)  (rl : RL_) (wl : WL_) (hB : RBq rl 62) (hW : WB_ wl 62) : Kc l G yX6_init cX6_init 1 1 2 32 61 62 rl wl (rMornings rl) (wMornings wl) := by
  refine Kc_of hl0 (by decide) (by decide) rfl ?_
  intro p e s mid args below meth c ls C hnm hsz hG hAO hrt hl hR
  have hx := C.1.1
  have hb := C.1.2.1
  refine lv_aload_n hx hb (dk DX6_init 0 rfl) rfl (lv_at hl 0 rfl) ?_
  refine k_obj C (gd q456 rfl) (gd q166 rfl) (gd q167 rfl) (by decide) hl.1 (dk DX6_init 1 rfl) ?_
  refine lv_aload_n hx hb (dk DX6_init 2 rfl) rfl (lv_at hl 0 rfl) ?_
  refine lv_bipush (v := (16 : Int32)) hx hb (dk DX6_init 3 rfl) (by decide) ?_
  refine r_newi (N := 16) C hR (by omega) hG (by repeat' (first | exact hW.up (by omega) | refine WB_.cons (by omega) ?_ | refine wb_Match (by omega) ?_ | refine wb_Law (by omega) ?_ | refine wb_Book (by omega) ?_ | refine wb_Ground (by omega) ?_ | refine wb_Text2 (by omega) ?_ | refine wb_Text4 (by omega) ?_ | refine wb_Odds (by omega) ?_ | refine wb_Past (by omega) ?_ | refine wb_GroundText (by omega) ?_ | refine wb_LawText (by omega) ?_)) rfl (gd q206 rfl) ⟨by decide, by decide⟩ (by decide) (by decide) (by decide) (dk DX6_init 4 rfl) (fun H hR => ?_)
  refine k_cells (k := 1) (n' := 16) rfl rfl ?_
  have hR := k_at (n' := 63) hR rfl
  refine r_putR (o := 61) (k := 62) (ci := 6) (j := 0) (ty := tyX6 0) C hnm hR ⟨by decide, rfl⟩ rfl iX6 tyX6 tyX6_ok nmX6 (by decide) (by decide) rfl (gd q457 rfl) (fun _ h => h) rfl rfl (tyX6_ok 0 (by decide)) rfl rfl (dk DX6_init 5 rfl) (fun H locs hR => ?_)
  refine lv_aload_n hx hb (dk DX6_init 6 rfl) rfl (lv_at hl 0 rfl) ?_
  refine lv_bipush (v := (16 : Int32)) hx hb (dk DX6_init 7 rfl) (by decide) ?_
  refine r_newi (N := 16) C hR (by omega) hG (by repeat' (first | exact hW.up (by omega) | refine WB_.cons (by omega) ?_ | refine wb_Match (by omega) ?_ | refine wb_Law (by omega) ?_ | refine wb_Book (by omega) ?_ | refine wb_Ground (by omega) ?_ | refine wb_Text2 (by omega) ?_ | refine wb_Text4 (by omega) ?_ | refine wb_Odds (by omega) ?_ | refine wb_Past (by omega) ?_ | refine wb_GroundText (by omega) ?_ | refine wb_LawText (by omega) ?_)) rfl (gd q206 rfl) ⟨by decide, by decide⟩ (by decide) (by decide) (by decide) (dk DX6_init 8 rfl) (fun H hR => ?_)
  refine k_cells (k := 2) (n' := 32) rfl rfl ?_
  have hR := k_at (n' := 64) hR rfl
  refine r_putR (o := 61) (k := 63) (ci := 6) (j := 1) (ty := tyX6 1) C hnm hR ⟨by decide, rfl⟩ rfl iX6 tyX6 tyX6_ok nmX6 (by decide) (by decide) rfl (gd q458 rfl) (fun _ h => h) rfl rfl (tyX6_ok 1 (by decide)) rfl rfl (dk DX6_init 9 rfl) (fun H locs hR => ?_)
  exact k_ret C hrt hR (dk DX6_init 10 rfl)
def rTossGround (rl : RL_) : RL_ := ((0, 12, 76) :: (rMatch 76 ((0, 11, 64) :: (rGround 64 ((0, 10, 61) :: (rMornings ((0, 9, 52) :: (rLawText ((0, 8, 46) :: (rGroundText ((0, 7, 20) :: (rPast ((0, 6, 18) :: (rMatch 18 ((0, 5, 16) :: (rMatch 16 ((0, 4, 3) :: ((0, 3, 2) :: (rOdds ((0, 0, 1) :: rl))))))))))))))))))))
def wTossGround (wl : WL_) : WL_ := ((0, 13, .inr (.inr (false : Bool))) :: (wMatch 76 (wGround 64 (wMornings (wLawText (wGroundText (wPast (wMatch 18 (wMatch 16 (wOdds ((0, 2, .inl (-1 : Int32)) :: ((0, 1, .inl (0 : Int32)) :: wl))))))))))))
theorem rb_TossGround {rl : RL_} {n : Nat} (hn : 78 ≤ n) (hB : RBq rl n) : RBq (rTossGround rl) n := by
  unfold rTossGround
  repeat' (first | exact hB.up (by omega) | refine RBq.cons (by omega) ?_ | refine rb_Match (by omega) ?_ | refine rb_Law (by omega) ?_ | refine rb_Book (by omega) ?_ | refine rb_Ground (by omega) ?_ | refine rb_Text2 (by omega) ?_ | refine rb_Text4 (by omega) ?_ | refine rb_Odds (by omega) ?_ | refine rb_Past (by omega) ?_ | refine rb_GroundText (by omega) ?_ | refine rb_LawText (by omega) ?_ | refine rb_Mornings (by omega) ?_)
theorem wb_TossGround {wl : WL_} {n : Nat} (hn : 78 ≤ n) (hB : WB_ wl n) : WB_ (wTossGround wl) n := by
  unfold wTossGround
  repeat' (first | exact hB.up (by omega) | refine WB_.cons (by omega) ?_ | refine wb_Match (by omega) ?_ | refine wb_Law (by omega) ?_ | refine wb_Book (by omega) ?_ | refine wb_Ground (by omega) ?_ | refine wb_Text2 (by omega) ?_ | refine wb_Text4 (by omega) ?_ | refine wb_Odds (by omega) ?_ | refine wb_Past (by omega) ?_ | refine wb_GroundText (by omega) ?_ | refine wb_LawText (by omega) ?_ | refine wb_Mornings (by omega) ?_)
set_option maxRecDepth 40000 in
set_option maxHeartbeats 4000000 in
theorem K_TossGround (l : Launch) (hl0 : l.stackTraces = false) (G : GG)  (rl : RL_) (wl : WL_) (hB : RBq rl 1) (hW : WB_ wl 1) : Kc l G yX10_init cX10_init 1 4 77 199952 0 1 rl wl (rTossGround rl) (wTossGround wl) := by
  refine Kc_of hl0 (by decide) (by decide) rfl ?_
  intro p e s mid args below meth c ls C hnm hsz hG hAO hrt hl hR
  have hx := C.1.1
  have hb := C.1.2.1
  refine lv_aload_n hx hb (dk DX10_init 0 rfl) rfl (lv_at hl 0 rfl) ?_
  refine k_obj C (gd q165 rfl) (gd q166 rfl) (gd q167 rfl) (by decide) hl.1 (dk DX10_init 1 rfl) ?_
  refine lv_aload_n hx hb (dk DX10_init 2 rfl) rfl (lv_at hl 0 rfl) ?_
  refine lv_sipush (v := (400 : Int32)) hx hb (dk DX10_init 3 rfl) (by decide) ?_
  refine r_newi (N := 400) C hR (by omega) hG (by repeat' (first | exact hW.up (by omega) | refine WB_.cons (by omega) ?_ | refine wb_Match (by omega) ?_ | refine wb_Law (by omega) ?_ | refine wb_Book (by omega) ?_ | refine wb_Ground (by omega) ?_ | refine wb_Text2 (by omega) ?_ | refine wb_Text4 (by omega) ?_ | refine wb_Odds (by omega) ?_ | refine wb_Past (by omega) ?_ | refine wb_GroundText (by omega) ?_ | refine wb_LawText (by omega) ?_ | refine wb_Mornings (by omega) ?_)) rfl (gd q206 rfl) ⟨by decide, by decide⟩ (by decide) (by decide) (by decide) (dk DX10_init 4 rfl) (fun H hR => ?_)
  refine k_cells (k := 1) (n' := 400) rfl rfl ?_
  have hR := k_at (n' := 2) hR rfl
  refine r_putR (o := 0) (k := 1) (ci := 10) (j := 0) (ty := tyX10 0) C hnm hR ⟨by decide, rfl⟩ rfl iX10 tyX10 tyX10_ok nmX10 (by decide) (by decide) rfl (gd q466 rfl) (fun _ h => h) rfl rfl (tyX10_ok 0 (by decide)) rfl rfl (dk DX10_init 5 rfl) (fun H locs hR => ?_)
  refine lv_aload_n hx hb (dk DX10_init 6 rfl) rfl (lv_at hl 0 rfl) ?_
  refine lv_iconst (v := (0 : Int32)) hx hb (dk DX10_init 7 rfl) (by decide) ?_
  refine pX10_13 (o := 0) (x := (0 : Int32)) C hR ⟨by decide, rfl⟩ (dk DX10_init 8 rfl) (fun H locs hR => ?_)
  have hR := k_I hR
  refine lv_aload_n hx hb (dk DX10_init 9 rfl) rfl (lv_at hl 0 rfl) ?_
  refine lv_iconst (v := (-1 : Int32)) hx hb (dk DX10_init 10 rfl) (by decide) ?_
  refine pX10_17 (o := 0) (x := (-1 : Int32)) C hR ⟨by decide, rfl⟩ (dk DX10_init 11 rfl) (fun H locs hR => ?_)
  have hR := k_I hR
  refine lv_aload_n hx hb (dk DX10_init 12 rfl) rfl (lv_at hl 0 rfl) ?_
  refine r_new C hR (by omega) hG (by repeat' (first | exact hW.up (by omega) | refine WB_.cons (by omega) ?_ | refine wb_Match (by omega) ?_ | refine wb_Law (by omega) ?_ | refine wb_Book (by omega) ?_ | refine wb_Ground (by omega) ?_ | refine wb_Text2 (by omega) ?_ | refine wb_Text4 (by omega) ?_ | refine wb_Odds (by omega) ?_ | refine wb_Past (by omega) ?_ | refine wb_GroundText (by omega) ?_ | refine wb_LawText (by omega) ?_ | refine wb_Mornings (by omega) ?_)) (by repeat' (first | exact hB.up (by omega) | refine RBq.cons (by omega) ?_ | refine rb_Match (by omega) ?_ | refine rb_Law (by omega) ?_ | refine rb_Book (by omega) ?_ | refine rb_Ground (by omega) ?_ | refine rb_Text2 (by omega) ?_ | refine rb_Text4 (by omega) ?_ | refine rb_Odds (by omega) ?_ | refine rb_Past (by omega) ?_ | refine rb_GroundText (by omega) ?_ | refine rb_LawText (by omega) ?_ | refine rb_Mornings (by omega) ?_)) rfl rfl iX7 tyX7 tyX7_ok dvX7 (gd q168 rfl) (gd q169 rfl) (gd q135 rfl) (by decide) (by decide) (dk DX10_init 13 rfl) (fun H hR => ?_)
  refine k_cells (k := 2) (n' := 409) rfl rfl ?_
  have hR := k_at (n' := 3) hR rfl
  refine lv_dup hx hb (dk DX10_init 14 rfl) rfl ?_
  refine r_callKN (o := 2) C hAO hR (by omega) (K_Odds l hl0 G _ _ (by repeat' (first | exact hB.up (by omega) | refine RBq.cons (by omega) ?_ | refine rb_Match (by omega) ?_ | refine rb_Law (by omega) ?_ | refine rb_Book (by omega) ?_ | refine rb_Ground (by omega) ?_ | refine rb_Text2 (by omega) ?_ | refine rb_Text4 (by omega) ?_ | refine rb_Odds (by omega) ?_ | refine rb_Past (by omega) ?_ | refine rb_GroundText (by omega) ?_ | refine rb_LawText (by omega) ?_ | refine rb_Mornings (by omega) ?_)) (by repeat' (first | exact hW.up (by omega) | refine WB_.cons (by omega) ?_ | refine wb_Match (by omega) ?_ | refine wb_Law (by omega) ?_ | refine wb_Book (by omega) ?_ | refine wb_Ground (by omega) ?_ | refine wb_Text2 (by omega) ?_ | refine wb_Text4 (by omega) ?_ | refine wb_Odds (by omega) ?_ | refine wb_Past (by omega) ?_ | refine wb_GroundText (by omega) ?_ | refine wb_LawText (by omega) ?_ | refine wb_Mornings (by omega) ?_))) (by omega) (by decide) (by decide) wkX10_22 (Nat.le_of_ble_eq_true rfl) hl.1 ⟨by decide, by decide⟩ (dk DX10_init 15 rfl) (fun H locs hR => ?_)
  refine k_cells (k := 15) (n' := 194240) rfl rfl ?_
  have hR := k_at (n' := 16) hR rfl
  refine r_putR (o := 0) (k := 2) (ci := 10) (j := 3) (ty := tyX10 3) C hnm hR ⟨by decide, rfl⟩ rfl iX10 tyX10 tyX10_ok nmX10 (by decide) (by decide) rfl (gd q469 rfl) (fun _ h => h) rfl rfl (tyX10_ok 3 (by decide)) rfl rfl (dk DX10_init 16 rfl) (fun H locs hR => ?_)
  refine lv_aload_n hx hb (dk DX10_init 17 rfl) rfl (lv_at hl 0 rfl) ?_
  refine lv_aload_n hx hb (dk DX10_init 18 rfl) rfl (lv_at hl 0 rfl) ?_
  refine gX10_23 (o := 0) (k := 2) C hR ⟨by decide, rfl⟩ rfl (dk DX10_init 19 rfl) ?_
  refine gX10_27 (o := 2) (k := 3) C hR ⟨by decide, rfl⟩ rfl (dk DX10_init 20 rfl) ?_
  refine r_putR (o := 0) (k := 3) (ci := 10) (j := 4) (ty := tyX10 4) C hnm hR ⟨by decide, rfl⟩ rfl iX10 tyX10 tyX10_ok nmX10 (by decide) (by decide) rfl (gd q470 rfl) (fun _ h => h) rfl rfl (tyX10_ok 4 (by decide)) rfl rfl (dk DX10_init 21 rfl) (fun H locs hR => ?_)
  refine lv_aload_n hx hb (dk DX10_init 22 rfl) rfl (lv_at hl 0 rfl) ?_
  refine r_new C hR (by omega) hG (by repeat' (first | exact hW.up (by omega) | refine WB_.cons (by omega) ?_ | refine wb_Match (by omega) ?_ | refine wb_Law (by omega) ?_ | refine wb_Book (by omega) ?_ | refine wb_Ground (by omega) ?_ | refine wb_Text2 (by omega) ?_ | refine wb_Text4 (by omega) ?_ | refine wb_Odds (by omega) ?_ | refine wb_Past (by omega) ?_ | refine wb_GroundText (by omega) ?_ | refine wb_LawText (by omega) ?_ | refine wb_Mornings (by omega) ?_)) (by repeat' (first | exact hB.up (by omega) | refine RBq.cons (by omega) ?_ | refine rb_Match (by omega) ?_ | refine rb_Law (by omega) ?_ | refine rb_Book (by omega) ?_ | refine rb_Ground (by omega) ?_ | refine rb_Text2 (by omega) ?_ | refine rb_Text4 (by omega) ?_ | refine rb_Odds (by omega) ?_ | refine rb_Past (by omega) ?_ | refine rb_GroundText (by omega) ?_ | refine rb_LawText (by omega) ?_ | refine rb_Mornings (by omega) ?_)) rfl rfl iX5 tyX5 tyX5_ok dvX5 (gd q316 rfl) (gd q317 rfl) (gd q139 rfl) (by decide) (by decide) (dk DX10_init 23 rfl) (fun H hR => ?_)
  refine k_cells (k := 16) (n' := 194251) rfl rfl ?_
  have hR := k_at (n' := 17) hR rfl
  refine lv_dup hx hb (dk DX10_init 24 rfl) rfl ?_
  refine r_callKN (o := 16) C hAO hR (by omega) (K_Match l hl0 G 16 rfl rfl _ _ (by repeat' (first | exact hB.up (by omega) | refine RBq.cons (by omega) ?_ | refine rb_Match (by omega) ?_ | refine rb_Law (by omega) ?_ | refine rb_Book (by omega) ?_ | refine rb_Ground (by omega) ?_ | refine rb_Text2 (by omega) ?_ | refine rb_Text4 (by omega) ?_ | refine rb_Odds (by omega) ?_ | refine rb_Past (by omega) ?_ | refine rb_GroundText (by omega) ?_ | refine rb_LawText (by omega) ?_ | refine rb_Mornings (by omega) ?_)) (by repeat' (first | exact hW.up (by omega) | refine WB_.cons (by omega) ?_ | refine wb_Match (by omega) ?_ | refine wb_Law (by omega) ?_ | refine wb_Book (by omega) ?_ | refine wb_Ground (by omega) ?_ | refine wb_Text2 (by omega) ?_ | refine wb_Text4 (by omega) ?_ | refine wb_Odds (by omega) ?_ | refine wb_Past (by omega) ?_ | refine wb_GroundText (by omega) ?_ | refine wb_LawText (by omega) ?_ | refine wb_Mornings (by omega) ?_))) (by omega) (by decide) (by decide) wkX10_36 (Nat.le_of_ble_eq_true rfl) hl.1 ⟨by decide, by decide⟩ (dk DX10_init 25 rfl) (fun H locs hR => ?_)
  refine k_cells (k := 17) (n' := 194314) rfl rfl ?_
  have hR := k_at (n' := 18) hR rfl
  refine r_putR (o := 0) (k := 16) (ci := 10) (j := 5) (ty := tyX10 5) C hnm hR ⟨by decide, rfl⟩ rfl iX10 tyX10 tyX10_ok nmX10 (by decide) (by decide) rfl (gd q471 rfl) (fun _ h => h) rfl rfl (tyX10_ok 5 (by decide)) rfl rfl (dk DX10_init 26 rfl) (fun H locs hR => ?_)
  refine lv_aload_n hx hb (dk DX10_init 27 rfl) rfl (lv_at hl 0 rfl) ?_
  refine r_new C hR (by omega) hG (by repeat' (first | exact hW.up (by omega) | refine WB_.cons (by omega) ?_ | refine wb_Match (by omega) ?_ | refine wb_Law (by omega) ?_ | refine wb_Book (by omega) ?_ | refine wb_Ground (by omega) ?_ | refine wb_Text2 (by omega) ?_ | refine wb_Text4 (by omega) ?_ | refine wb_Odds (by omega) ?_ | refine wb_Past (by omega) ?_ | refine wb_GroundText (by omega) ?_ | refine wb_LawText (by omega) ?_ | refine wb_Mornings (by omega) ?_)) (by repeat' (first | exact hB.up (by omega) | refine RBq.cons (by omega) ?_ | refine rb_Match (by omega) ?_ | refine rb_Law (by omega) ?_ | refine rb_Book (by omega) ?_ | refine rb_Ground (by omega) ?_ | refine rb_Text2 (by omega) ?_ | refine rb_Text4 (by omega) ?_ | refine rb_Odds (by omega) ?_ | refine rb_Past (by omega) ?_ | refine rb_GroundText (by omega) ?_ | refine rb_LawText (by omega) ?_ | refine rb_Mornings (by omega) ?_)) rfl rfl iX5 tyX5 tyX5_ok dvX5 (gd q316 rfl) (gd q317 rfl) (gd q139 rfl) (by decide) (by decide) (dk DX10_init 28 rfl) (fun H hR => ?_)
  refine k_cells (k := 18) (n' := 194325) rfl rfl ?_
  have hR := k_at (n' := 19) hR rfl
  refine lv_dup hx hb (dk DX10_init 29 rfl) rfl ?_
  refine r_callKN (o := 18) C hAO hR (by omega) (K_Match l hl0 G 18 rfl rfl _ _ (by repeat' (first | exact hB.up (by omega) | refine RBq.cons (by omega) ?_ | refine rb_Match (by omega) ?_ | refine rb_Law (by omega) ?_ | refine rb_Book (by omega) ?_ | refine rb_Ground (by omega) ?_ | refine rb_Text2 (by omega) ?_ | refine rb_Text4 (by omega) ?_ | refine rb_Odds (by omega) ?_ | refine rb_Past (by omega) ?_ | refine rb_GroundText (by omega) ?_ | refine rb_LawText (by omega) ?_ | refine rb_Mornings (by omega) ?_)) (by repeat' (first | exact hW.up (by omega) | refine WB_.cons (by omega) ?_ | refine wb_Match (by omega) ?_ | refine wb_Law (by omega) ?_ | refine wb_Book (by omega) ?_ | refine wb_Ground (by omega) ?_ | refine wb_Text2 (by omega) ?_ | refine wb_Text4 (by omega) ?_ | refine wb_Odds (by omega) ?_ | refine wb_Past (by omega) ?_ | refine wb_GroundText (by omega) ?_ | refine wb_LawText (by omega) ?_ | refine wb_Mornings (by omega) ?_))) (by omega) (by decide) (by decide) wkX10_36 (Nat.le_of_ble_eq_true rfl) hl.1 ⟨by decide, by decide⟩ (dk DX10_init 30 rfl) (fun H locs hR => ?_)
  refine k_cells (k := 19) (n' := 194388) rfl rfl ?_
  have hR := k_at (n' := 20) hR rfl
  refine r_putR (o := 0) (k := 18) (ci := 10) (j := 6) (ty := tyX10 6) C hnm hR ⟨by decide, rfl⟩ rfl iX10 tyX10 tyX10_ok nmX10 (by decide) (by decide) rfl (gd q472 rfl) (fun _ h => h) rfl rfl (tyX10_ok 6 (by decide)) rfl rfl (dk DX10_init 31 rfl) (fun H locs hR => ?_)
  refine lv_aload_n hx hb (dk DX10_init 32 rfl) rfl (lv_at hl 0 rfl) ?_
  refine r_new C hR (by omega) hG (by repeat' (first | exact hW.up (by omega) | refine WB_.cons (by omega) ?_ | refine wb_Match (by omega) ?_ | refine wb_Law (by omega) ?_ | refine wb_Book (by omega) ?_ | refine wb_Ground (by omega) ?_ | refine wb_Text2 (by omega) ?_ | refine wb_Text4 (by omega) ?_ | refine wb_Odds (by omega) ?_ | refine wb_Past (by omega) ?_ | refine wb_GroundText (by omega) ?_ | refine wb_LawText (by omega) ?_ | refine wb_Mornings (by omega) ?_)) (by repeat' (first | exact hB.up (by omega) | refine RBq.cons (by omega) ?_ | refine rb_Match (by omega) ?_ | refine rb_Law (by omega) ?_ | refine rb_Book (by omega) ?_ | refine rb_Ground (by omega) ?_ | refine rb_Text2 (by omega) ?_ | refine rb_Text4 (by omega) ?_ | refine rb_Odds (by omega) ?_ | refine rb_Past (by omega) ?_ | refine rb_GroundText (by omega) ?_ | refine rb_LawText (by omega) ?_ | refine rb_Mornings (by omega) ?_)) rfl rfl iX8 tyX8 tyX8_ok dvX8 (gd q364 rfl) (gd q365 rfl) (gd q140 rfl) (by decide) (by decide) (dk DX10_init 33 rfl) (fun H hR => ?_)
  refine k_cells (k := 20) (n' := 194391) rfl rfl ?_
  have hR := k_at (n' := 21) hR rfl
  refine lv_dup hx hb (dk DX10_init 34 rfl) rfl ?_
  refine r_callK (o := 20) C hAO hR (by omega) (K_Past l hl0 G _ _ (by repeat' (first | exact hB.up (by omega) | refine RBq.cons (by omega) ?_ | refine rb_Match (by omega) ?_ | refine rb_Law (by omega) ?_ | refine rb_Book (by omega) ?_ | refine rb_Ground (by omega) ?_ | refine rb_Text2 (by omega) ?_ | refine rb_Text4 (by omega) ?_ | refine rb_Odds (by omega) ?_ | refine rb_Past (by omega) ?_ | refine rb_GroundText (by omega) ?_ | refine rb_LawText (by omega) ?_ | refine rb_Mornings (by omega) ?_)) (by repeat' (first | exact hW.up (by omega) | refine WB_.cons (by omega) ?_ | refine wb_Match (by omega) ?_ | refine wb_Law (by omega) ?_ | refine wb_Book (by omega) ?_ | refine wb_Ground (by omega) ?_ | refine wb_Text2 (by omega) ?_ | refine wb_Text4 (by omega) ?_ | refine wb_Odds (by omega) ?_ | refine wb_Past (by omega) ?_ | refine wb_GroundText (by omega) ?_ | refine wb_LawText (by omega) ?_ | refine wb_Mornings (by omega) ?_))) (by omega) (by decide) (by decide) wkX10_46 (Nat.le_of_ble_eq_true rfl) hl.1 ⟨by decide, by decide⟩ (dk DX10_init 35 rfl) (fun H locs hR => ?_)
  refine k_cells (k := 45) (n' := 195291) rfl rfl ?_
  have hR := k_at (n' := 46) hR rfl
  refine r_putR (o := 0) (k := 20) (ci := 10) (j := 7) (ty := tyX10 7) C hnm hR ⟨by decide, rfl⟩ rfl iX10 tyX10 tyX10_ok nmX10 (by decide) (by decide) rfl (gd q473 rfl) (fun _ h => h) rfl rfl (tyX10_ok 7 (by decide)) rfl rfl (dk DX10_init 36 rfl) (fun H locs hR => ?_)
  refine lv_aload_n hx hb (dk DX10_init 37 rfl) rfl (lv_at hl 0 rfl) ?_
  refine r_new C hR (by omega) hG (by repeat' (first | exact hW.up (by omega) | refine WB_.cons (by omega) ?_ | refine wb_Match (by omega) ?_ | refine wb_Law (by omega) ?_ | refine wb_Book (by omega) ?_ | refine wb_Ground (by omega) ?_ | refine wb_Text2 (by omega) ?_ | refine wb_Text4 (by omega) ?_ | refine wb_Odds (by omega) ?_ | refine wb_Past (by omega) ?_ | refine wb_GroundText (by omega) ?_ | refine wb_LawText (by omega) ?_ | refine wb_Mornings (by omega) ?_)) (by repeat' (first | exact hB.up (by omega) | refine RBq.cons (by omega) ?_ | refine rb_Match (by omega) ?_ | refine rb_Law (by omega) ?_ | refine rb_Book (by omega) ?_ | refine rb_Ground (by omega) ?_ | refine rb_Text2 (by omega) ?_ | refine rb_Text4 (by omega) ?_ | refine rb_Odds (by omega) ?_ | refine rb_Past (by omega) ?_ | refine rb_GroundText (by omega) ?_ | refine rb_LawText (by omega) ?_ | refine rb_Mornings (by omega) ?_)) rfl rfl iX2 tyX2 tyX2_ok dvX2 (gd q384 rfl) (gd q385 rfl) (gd q142 rfl) (by decide) (by decide) (dk DX10_init 38 rfl) (fun H hR => ?_)
  refine k_cells (k := 46) (n' := 195302) rfl rfl ?_
  have hR := k_at (n' := 47) hR rfl
  refine lv_dup hx hb (dk DX10_init 39 rfl) rfl ?_
  refine r_callKN (o := 46) C hAO hR (by omega) (K_GroundText l hl0 G _ _ (by repeat' (first | exact hB.up (by omega) | refine RBq.cons (by omega) ?_ | refine rb_Match (by omega) ?_ | refine rb_Law (by omega) ?_ | refine rb_Book (by omega) ?_ | refine rb_Ground (by omega) ?_ | refine rb_Text2 (by omega) ?_ | refine rb_Text4 (by omega) ?_ | refine rb_Odds (by omega) ?_ | refine rb_Past (by omega) ?_ | refine rb_GroundText (by omega) ?_ | refine rb_LawText (by omega) ?_ | refine rb_Mornings (by omega) ?_)) (by repeat' (first | exact hW.up (by omega) | refine WB_.cons (by omega) ?_ | refine wb_Match (by omega) ?_ | refine wb_Law (by omega) ?_ | refine wb_Book (by omega) ?_ | refine wb_Ground (by omega) ?_ | refine wb_Text2 (by omega) ?_ | refine wb_Text4 (by omega) ?_ | refine wb_Odds (by omega) ?_ | refine wb_Past (by omega) ?_ | refine wb_GroundText (by omega) ?_ | refine wb_LawText (by omega) ?_ | refine wb_Mornings (by omega) ?_))) (by omega) (by decide) (by decide) wkX10_53 (Nat.le_of_ble_eq_true rfl) hl.1 ⟨by decide, by decide⟩ (dk DX10_init 40 rfl) (fun H locs hR => ?_)
  refine k_cells (k := 51) (n' := 196975) rfl rfl ?_
  have hR := k_at (n' := 52) hR rfl
  refine r_putR (o := 0) (k := 46) (ci := 10) (j := 8) (ty := tyX10 8) C hnm hR ⟨by decide, rfl⟩ rfl iX10 tyX10 tyX10_ok nmX10 (by decide) (by decide) rfl (gd q474 rfl) (fun _ h => h) rfl rfl (tyX10_ok 8 (by decide)) rfl rfl (dk DX10_init 41 rfl) (fun H locs hR => ?_)
  refine lv_aload_n hx hb (dk DX10_init 42 rfl) rfl (lv_at hl 0 rfl) ?_
  refine r_new C hR (by omega) hG (by repeat' (first | exact hW.up (by omega) | refine WB_.cons (by omega) ?_ | refine wb_Match (by omega) ?_ | refine wb_Law (by omega) ?_ | refine wb_Book (by omega) ?_ | refine wb_Ground (by omega) ?_ | refine wb_Text2 (by omega) ?_ | refine wb_Text4 (by omega) ?_ | refine wb_Odds (by omega) ?_ | refine wb_Past (by omega) ?_ | refine wb_GroundText (by omega) ?_ | refine wb_LawText (by omega) ?_ | refine wb_Mornings (by omega) ?_)) (by repeat' (first | exact hB.up (by omega) | refine RBq.cons (by omega) ?_ | refine rb_Match (by omega) ?_ | refine rb_Law (by omega) ?_ | refine rb_Book (by omega) ?_ | refine rb_Ground (by omega) ?_ | refine rb_Text2 (by omega) ?_ | refine rb_Text4 (by omega) ?_ | refine rb_Odds (by omega) ?_ | refine rb_Past (by omega) ?_ | refine rb_GroundText (by omega) ?_ | refine rb_LawText (by omega) ?_ | refine rb_Mornings (by omega) ?_)) rfl rfl iX4 tyX4 tyX4_ok dvX4 (gd q431 rfl) (gd q432 rfl) (gd q143 rfl) (by decide) (by decide) (dk DX10_init 43 rfl) (fun H hR => ?_)
  refine k_cells (k := 52) (n' := 196983) rfl rfl ?_
  have hR := k_at (n' := 53) hR rfl
  refine lv_dup hx hb (dk DX10_init 44 rfl) rfl ?_
  refine r_callKN (o := 52) C hAO hR (by omega) (K_LawText l hl0 G _ _ (by repeat' (first | exact hB.up (by omega) | refine RBq.cons (by omega) ?_ | refine rb_Match (by omega) ?_ | refine rb_Law (by omega) ?_ | refine rb_Book (by omega) ?_ | refine rb_Ground (by omega) ?_ | refine rb_Text2 (by omega) ?_ | refine rb_Text4 (by omega) ?_ | refine rb_Odds (by omega) ?_ | refine rb_Past (by omega) ?_ | refine rb_GroundText (by omega) ?_ | refine rb_LawText (by omega) ?_ | refine rb_Mornings (by omega) ?_)) (by repeat' (first | exact hW.up (by omega) | refine WB_.cons (by omega) ?_ | refine wb_Match (by omega) ?_ | refine wb_Law (by omega) ?_ | refine wb_Book (by omega) ?_ | refine wb_Ground (by omega) ?_ | refine wb_Text2 (by omega) ?_ | refine wb_Text4 (by omega) ?_ | refine wb_Odds (by omega) ?_ | refine wb_Past (by omega) ?_ | refine wb_GroundText (by omega) ?_ | refine wb_LawText (by omega) ?_ | refine wb_Mornings (by omega) ?_))) (by omega) (by decide) (by decide) wkX10_60 (Nat.le_of_ble_eq_true rfl) hl.1 ⟨by decide, by decide⟩ (dk DX10_init 45 rfl) (fun H locs hR => ?_)
  refine k_cells (k := 60) (n' := 199063) rfl rfl ?_
  have hR := k_at (n' := 61) hR rfl
  refine r_putR (o := 0) (k := 52) (ci := 10) (j := 9) (ty := tyX10 9) C hnm hR ⟨by decide, rfl⟩ rfl iX10 tyX10 tyX10_ok nmX10 (by decide) (by decide) rfl (gd q475 rfl) (fun _ h => h) rfl rfl (tyX10_ok 9 (by decide)) rfl rfl (dk DX10_init 46 rfl) (fun H locs hR => ?_)
  refine lv_aload_n hx hb (dk DX10_init 47 rfl) rfl (lv_at hl 0 rfl) ?_
  refine r_new C hR (by omega) hG (by repeat' (first | exact hW.up (by omega) | refine WB_.cons (by omega) ?_ | refine wb_Match (by omega) ?_ | refine wb_Law (by omega) ?_ | refine wb_Book (by omega) ?_ | refine wb_Ground (by omega) ?_ | refine wb_Text2 (by omega) ?_ | refine wb_Text4 (by omega) ?_ | refine wb_Odds (by omega) ?_ | refine wb_Past (by omega) ?_ | refine wb_GroundText (by omega) ?_ | refine wb_LawText (by omega) ?_ | refine wb_Mornings (by omega) ?_)) (by repeat' (first | exact hB.up (by omega) | refine RBq.cons (by omega) ?_ | refine rb_Match (by omega) ?_ | refine rb_Law (by omega) ?_ | refine rb_Book (by omega) ?_ | refine rb_Ground (by omega) ?_ | refine rb_Text2 (by omega) ?_ | refine rb_Text4 (by omega) ?_ | refine rb_Odds (by omega) ?_ | refine rb_Past (by omega) ?_ | refine rb_GroundText (by omega) ?_ | refine rb_LawText (by omega) ?_ | refine rb_Mornings (by omega) ?_)) rfl rfl iX6 tyX6 tyX6_ok dvX6 (gd q451 rfl) (gd q452 rfl) (gd q144 rfl) (by decide) (by decide) (dk DX10_init 48 rfl) (fun H hR => ?_)
  refine k_cells (k := 61) (n' := 199065) rfl rfl ?_
  have hR := k_at (n' := 62) hR rfl
  refine lv_dup hx hb (dk DX10_init 49 rfl) rfl ?_
  refine r_callKN (o := 61) C hAO hR (by omega) (K_Mornings l hl0 G _ _ (by repeat' (first | exact hB.up (by omega) | refine RBq.cons (by omega) ?_ | refine rb_Match (by omega) ?_ | refine rb_Law (by omega) ?_ | refine rb_Book (by omega) ?_ | refine rb_Ground (by omega) ?_ | refine rb_Text2 (by omega) ?_ | refine rb_Text4 (by omega) ?_ | refine rb_Odds (by omega) ?_ | refine rb_Past (by omega) ?_ | refine rb_GroundText (by omega) ?_ | refine rb_LawText (by omega) ?_ | refine rb_Mornings (by omega) ?_)) (by repeat' (first | exact hW.up (by omega) | refine WB_.cons (by omega) ?_ | refine wb_Match (by omega) ?_ | refine wb_Law (by omega) ?_ | refine wb_Book (by omega) ?_ | refine wb_Ground (by omega) ?_ | refine wb_Text2 (by omega) ?_ | refine wb_Text4 (by omega) ?_ | refine wb_Odds (by omega) ?_ | refine wb_Past (by omega) ?_ | refine wb_GroundText (by omega) ?_ | refine wb_LawText (by omega) ?_ | refine wb_Mornings (by omega) ?_))) (by omega) (by decide) (by decide) wkX10_67 (Nat.le_of_ble_eq_true rfl) hl.1 ⟨by decide, by decide⟩ (dk DX10_init 50 rfl) (fun H locs hR => ?_)
  refine k_cells (k := 63) (n' := 199097) rfl rfl ?_
  have hR := k_at (n' := 64) hR rfl
  refine r_putR (o := 0) (k := 61) (ci := 10) (j := 10) (ty := tyX10 10) C hnm hR ⟨by decide, rfl⟩ rfl iX10 tyX10 tyX10_ok nmX10 (by decide) (by decide) rfl (gd q476 rfl) (fun _ h => h) rfl rfl (tyX10_ok 10 (by decide)) rfl rfl (dk DX10_init 51 rfl) (fun H locs hR => ?_)
  refine lv_aload_n hx hb (dk DX10_init 52 rfl) rfl (lv_at hl 0 rfl) ?_
  refine r_new C hR (by omega) hG (by repeat' (first | exact hW.up (by omega) | refine WB_.cons (by omega) ?_ | refine wb_Match (by omega) ?_ | refine wb_Law (by omega) ?_ | refine wb_Book (by omega) ?_ | refine wb_Ground (by omega) ?_ | refine wb_Text2 (by omega) ?_ | refine wb_Text4 (by omega) ?_ | refine wb_Odds (by omega) ?_ | refine wb_Past (by omega) ?_ | refine wb_GroundText (by omega) ?_ | refine wb_LawText (by omega) ?_ | refine wb_Mornings (by omega) ?_)) (by repeat' (first | exact hB.up (by omega) | refine RBq.cons (by omega) ?_ | refine rb_Match (by omega) ?_ | refine rb_Law (by omega) ?_ | refine rb_Book (by omega) ?_ | refine rb_Ground (by omega) ?_ | refine rb_Text2 (by omega) ?_ | refine rb_Text4 (by omega) ?_ | refine rb_Odds (by omega) ?_ | refine rb_Past (by omega) ?_ | refine rb_GroundText (by omega) ?_ | refine rb_LawText (by omega) ?_ | refine rb_Mornings (by omega) ?_)) rfl rfl iX1 tyX1 tyX1_ok dvX1 (gd q464 rfl) (gd q175 rfl) (gd q136 rfl) (by decide) (by decide) (dk DX10_init 53 rfl) (fun H hR => ?_)
  refine k_cells (k := 64) (n' := 199111) rfl rfl ?_
  have hR := k_at (n' := 65) hR rfl
  refine lv_dup hx hb (dk DX10_init 54 rfl) rfl ?_
  refine r_callK (o := 64) C hAO hR (by omega) (K_Ground l hl0 G 64 rfl rfl rfl rfl rfl rfl rfl rfl rfl rfl rfl rfl _ _ (by repeat' (first | exact hB.up (by omega) | refine RBq.cons (by omega) ?_ | refine rb_Match (by omega) ?_ | refine rb_Law (by omega) ?_ | refine rb_Book (by omega) ?_ | refine rb_Ground (by omega) ?_ | refine rb_Text2 (by omega) ?_ | refine rb_Text4 (by omega) ?_ | refine rb_Odds (by omega) ?_ | refine rb_Past (by omega) ?_ | refine rb_GroundText (by omega) ?_ | refine rb_LawText (by omega) ?_ | refine rb_Mornings (by omega) ?_)) (by repeat' (first | exact hW.up (by omega) | refine WB_.cons (by omega) ?_ | refine wb_Match (by omega) ?_ | refine wb_Law (by omega) ?_ | refine wb_Book (by omega) ?_ | refine wb_Ground (by omega) ?_ | refine wb_Text2 (by omega) ?_ | refine wb_Text4 (by omega) ?_ | refine wb_Odds (by omega) ?_ | refine wb_Past (by omega) ?_ | refine wb_GroundText (by omega) ?_ | refine wb_LawText (by omega) ?_ | refine wb_Mornings (by omega) ?_))) (by omega) (by decide) (by decide) wkX10_74 (Nat.le_of_ble_eq_true rfl) hl.1 ⟨by decide, by decide⟩ (dk DX10_init 55 rfl) (fun H locs hR => ?_)
  refine k_cells (k := 75) (n' := 199878) rfl rfl ?_
  have hR := k_at (n' := 76) hR rfl
  refine r_putR (o := 0) (k := 64) (ci := 10) (j := 11) (ty := tyX10 11) C hnm hR ⟨by decide, rfl⟩ rfl iX10 tyX10 tyX10_ok nmX10 (by decide) (by decide) rfl (gd q477 rfl) (fun _ h => h) rfl rfl (tyX10_ok 11 (by decide)) rfl rfl (dk DX10_init 56 rfl) (fun H locs hR => ?_)
  refine lv_aload_n hx hb (dk DX10_init 57 rfl) rfl (lv_at hl 0 rfl) ?_
  refine r_new C hR (by omega) hG (by repeat' (first | exact hW.up (by omega) | refine WB_.cons (by omega) ?_ | refine wb_Match (by omega) ?_ | refine wb_Law (by omega) ?_ | refine wb_Book (by omega) ?_ | refine wb_Ground (by omega) ?_ | refine wb_Text2 (by omega) ?_ | refine wb_Text4 (by omega) ?_ | refine wb_Odds (by omega) ?_ | refine wb_Past (by omega) ?_ | refine wb_GroundText (by omega) ?_ | refine wb_LawText (by omega) ?_ | refine wb_Mornings (by omega) ?_)) (by repeat' (first | exact hB.up (by omega) | refine RBq.cons (by omega) ?_ | refine rb_Match (by omega) ?_ | refine rb_Law (by omega) ?_ | refine rb_Book (by omega) ?_ | refine rb_Ground (by omega) ?_ | refine rb_Text2 (by omega) ?_ | refine rb_Text4 (by omega) ?_ | refine rb_Odds (by omega) ?_ | refine rb_Past (by omega) ?_ | refine rb_GroundText (by omega) ?_ | refine rb_LawText (by omega) ?_ | refine rb_Mornings (by omega) ?_)) rfl rfl iX5 tyX5 tyX5_ok dvX5 (gd q316 rfl) (gd q317 rfl) (gd q139 rfl) (by decide) (by decide) (dk DX10_init 58 rfl) (fun H hR => ?_)
  refine k_cells (k := 76) (n' := 199889) rfl rfl ?_
  have hR := k_at (n' := 77) hR rfl
  refine lv_dup hx hb (dk DX10_init 59 rfl) rfl ?_
  refine r_callKN (o := 76) C hAO hR (by omega) (K_Match l hl0 G 76 rfl rfl _ _ (by repeat' (first | exact hB.up (by omega) | refine RBq.cons (by omega) ?_ | refine rb_Match (by omega) ?_ | refine rb_Law (by omega) ?_ | refine rb_Book (by omega) ?_ | refine rb_Ground (by omega) ?_ | refine rb_Text2 (by omega) ?_ | refine rb_Text4 (by omega) ?_ | refine rb_Odds (by omega) ?_ | refine rb_Past (by omega) ?_ | refine rb_GroundText (by omega) ?_ | refine rb_LawText (by omega) ?_ | refine rb_Mornings (by omega) ?_)) (by repeat' (first | exact hW.up (by omega) | refine WB_.cons (by omega) ?_ | refine wb_Match (by omega) ?_ | refine wb_Law (by omega) ?_ | refine wb_Book (by omega) ?_ | refine wb_Ground (by omega) ?_ | refine wb_Text2 (by omega) ?_ | refine wb_Text4 (by omega) ?_ | refine wb_Odds (by omega) ?_ | refine wb_Past (by omega) ?_ | refine wb_GroundText (by omega) ?_ | refine wb_LawText (by omega) ?_ | refine wb_Mornings (by omega) ?_))) (by omega) (by decide) (by decide) wkX10_36 (Nat.le_of_ble_eq_true rfl) hl.1 ⟨by decide, by decide⟩ (dk DX10_init 60 rfl) (fun H locs hR => ?_)
  refine k_cells (k := 77) (n' := 199952) rfl rfl ?_
  have hR := k_at (n' := 78) hR rfl
  refine r_putR (o := 0) (k := 76) (ci := 10) (j := 12) (ty := tyX10 12) C hnm hR ⟨by decide, rfl⟩ rfl iX10 tyX10 tyX10_ok nmX10 (by decide) (by decide) rfl (gd q478 rfl) (fun _ h => h) rfl rfl (tyX10_ok 12 (by decide)) rfl rfl (dk DX10_init 61 rfl) (fun H locs hR => ?_)
  refine lv_aload_n hx hb (dk DX10_init 62 rfl) rfl (lv_at hl 0 rfl) ?_
  refine lv_iconst (v := (0 : Int32)) hx hb (dk DX10_init 63 rfl) (by decide) ?_
  refine pX10_81 (o := 0) (x := (false : Bool)) C hR ⟨by decide, rfl⟩ (dk DX10_init 64 rfl) (fun H locs hR => ?_)
  have hR := k_Z hR
  exact k_ret C hrt hR (dk DX10_init 65 rfl)
def rTossGroundModel (rl : RL_) : RL_ := ((78, 26, 90) :: ((78, 25, 89) :: ((78, 19, 88) :: ((78, 18, 87) :: ((78, 17, 86) :: ((78, 16, 85) :: ((78, 14, 84) :: ((78, 7, 83) :: ((78, 4, 82) :: ((78, 3, 81) :: ((78, 2, 80) :: ((78, 1, 79) :: rl))))))))))))
def wTossGroundModel (wl : WL_) : WL_ := ((79, 54, .inl (2 : Int32)) :: ((79, 53, .inl (3 : Int32)) :: ((79, 52, .inl (2 : Int32)) :: ((79, 51, .inl (3 : Int32)) :: ((79, 50, .inl (2 : Int32)) :: ((79, 49, .inl (3 : Int32)) :: ((79, 48, .inl (2 : Int32)) :: ((79, 47, .inl (3 : Int32)) :: ((79, 46, .inl (2 : Int32)) :: ((79, 45, .inl (3 : Int32)) :: ((79, 44, .inl (2 : Int32)) :: ((79, 43, .inl (3 : Int32)) :: ((79, 42, .inl (2 : Int32)) :: ((79, 41, .inl (3 : Int32)) :: ((79, 40, .inl (2 : Int32)) :: ((79, 39, .inl (3 : Int32)) :: ((79, 38, .inl (2 : Int32)) :: ((79, 37, .inl (3 : Int32)) :: ((79, 36, .inl (2 : Int32)) :: ((79, 35, .inl (3 : Int32)) :: ((79, 34, .inl (2 : Int32)) :: ((79, 33, .inl (3 : Int32)) :: ((79, 32, .inl (2 : Int32)) :: ((79, 31, .inl (3 : Int32)) :: ((79, 30, .inl (2 : Int32)) :: ((79, 29, .inl (3 : Int32)) :: ((79, 28, .inl (2 : Int32)) :: ((79, 27, .inl (3 : Int32)) :: ((79, 26, .inl (2 : Int32)) :: ((79, 25, .inl (3 : Int32)) :: ((79, 24, .inl (2 : Int32)) :: ((79, 23, .inl (3 : Int32)) :: ((79, 22, .inl (5 : Int32)) :: ((79, 21, .inl (5 : Int32)) :: ((79, 20, .inl (5 : Int32)) :: ((79, 19, .inl (5 : Int32)) :: ((79, 18, .inl (-1 : Int32)) :: ((79, 10, .inl (-1 : Int32)) :: ((79, 9, .inl (1 : Int32)) :: ((79, 2, .inl (40 : Int32)) :: ((79, 1, .inl (15 : Int32)) :: ((79, 0, .inl (6 : Int32)) :: ((78, 13, .inl (-1 : Int32)) :: wl)))))))))))))))))))))))))))))))))))))))))))
theorem rb_TossGroundModel {rl : RL_} {n : Nat} (hn : 91 ≤ n) (hB : RBq rl n) : RBq (rTossGroundModel rl) n := by
  unfold rTossGroundModel
  repeat' (first | exact hB.up (by omega) | refine RBq.cons (by omega) ?_ | refine rb_Match (by omega) ?_ | refine rb_Law (by omega) ?_ | refine rb_Book (by omega) ?_ | refine rb_Ground (by omega) ?_ | refine rb_Text2 (by omega) ?_ | refine rb_Text4 (by omega) ?_ | refine rb_Odds (by omega) ?_ | refine rb_Past (by omega) ?_ | refine rb_GroundText (by omega) ?_ | refine rb_LawText (by omega) ?_ | refine rb_Mornings (by omega) ?_ | refine rb_TossGround (by omega) ?_)
theorem wb_TossGroundModel {wl : WL_} {n : Nat} (hn : 91 ≤ n) (hB : WB_ wl n) : WB_ (wTossGroundModel wl) n := by
  unfold wTossGroundModel
  repeat' (first | exact hB.up (by omega) | refine WB_.cons (by omega) ?_ | refine wb_Match (by omega) ?_ | refine wb_Law (by omega) ?_ | refine wb_Book (by omega) ?_ | refine wb_Ground (by omega) ?_ | refine wb_Text2 (by omega) ?_ | refine wb_Text4 (by omega) ?_ | refine wb_Odds (by omega) ?_ | refine wb_Past (by omega) ?_ | refine wb_GroundText (by omega) ?_ | refine wb_LawText (by omega) ?_ | refine wb_Mornings (by omega) ?_ | refine wb_TossGround (by omega) ?_)
set_option maxRecDepth 40000 in
set_option maxHeartbeats 4000000 in
theorem K_TossGroundModel (l : Launch) (hl0 : l.stackTraces = false) (G : GG)  (rl : RL_) (wl : WL_) (hB : RBq rl 79) (hW : WB_ wl 79) : Kc l G yX11_init cX11_init 2 1 12 94729 78 79 rl wl (rTossGroundModel rl) (wTossGroundModel wl) := by
  refine Kc_of hl0 (by decide) (by decide) rfl ?_
  intro p e s mid args below meth c ls C hnm hsz hG hAO hrt hl hR
  have hx := C.1.1
  have hb := C.1.2.1
  refine lv_aload_n hx hb (dk DX11_init 0 rfl) rfl (lv_at hl 0 rfl) ?_
  refine k_obj C (gd q1642 rfl) (gd q166 rfl) (gd q167 rfl) (by decide) hl.1 (dk DX11_init 1 rfl) ?_
  refine lv_aload_n hx hb (dk DX11_init 2 rfl) rfl (lv_at hl 0 rfl) ?_
  refine lv_sipush (v := (1972 : Int32)) hx hb (dk DX11_init 3 rfl) (by decide) ?_
  refine r_newi (N := 1972) C hR (by omega) hG (by repeat' (first | exact hW.up (by omega) | refine WB_.cons (by omega) ?_ | refine wb_Match (by omega) ?_ | refine wb_Law (by omega) ?_ | refine wb_Book (by omega) ?_ | refine wb_Ground (by omega) ?_ | refine wb_Text2 (by omega) ?_ | refine wb_Text4 (by omega) ?_ | refine wb_Odds (by omega) ?_ | refine wb_Past (by omega) ?_ | refine wb_GroundText (by omega) ?_ | refine wb_LawText (by omega) ?_ | refine wb_Mornings (by omega) ?_ | refine wb_TossGround (by omega) ?_)) rfl (gd q206 rfl) ⟨by decide, by decide⟩ (by decide) (by decide) (by decide) (dk DX11_init 4 rfl) (fun H hR => ?_)
  refine k_cells (k := 1) (n' := 1972) rfl rfl ?_
  have hR := k_at (n' := 80) hR rfl
  refine r_putR (o := 78) (k := 79) (ci := 11) (j := 1) (ty := tyX11 1) C hnm hR ⟨by decide, rfl⟩ rfl iX11 tyX11 tyX11_ok nmX11 (by decide) (by decide) rfl (gd q1645 rfl) (fun _ h => h) rfl rfl (tyX11_ok 1 (by decide)) rfl rfl (dk DX11_init 5 rfl) (fun H locs hR => ?_)
  refine lv_aload_n hx hb (dk DX11_init 6 rfl) rfl (lv_at hl 0 rfl) ?_
  refine lv_sipush (v := (1135 : Int32)) hx hb (dk DX11_init 7 rfl) (by decide) ?_
  refine r_newi (N := 1135) C hR (by omega) hG (by repeat' (first | exact hW.up (by omega) | refine WB_.cons (by omega) ?_ | refine wb_Match (by omega) ?_ | refine wb_Law (by omega) ?_ | refine wb_Book (by omega) ?_ | refine wb_Ground (by omega) ?_ | refine wb_Text2 (by omega) ?_ | refine wb_Text4 (by omega) ?_ | refine wb_Odds (by omega) ?_ | refine wb_Past (by omega) ?_ | refine wb_GroundText (by omega) ?_ | refine wb_LawText (by omega) ?_ | refine wb_Mornings (by omega) ?_ | refine wb_TossGround (by omega) ?_)) rfl (gd q206 rfl) ⟨by decide, by decide⟩ (by decide) (by decide) (by decide) (dk DX11_init 8 rfl) (fun H hR => ?_)
  refine k_cells (k := 2) (n' := 3107) rfl rfl ?_
  have hR := k_at (n' := 81) hR rfl
  refine r_putR (o := 78) (k := 80) (ci := 11) (j := 2) (ty := tyX11 2) C hnm hR ⟨by decide, rfl⟩ rfl iX11 tyX11 tyX11_ok nmX11 (by decide) (by decide) rfl (gd q1646 rfl) (fun _ h => h) rfl rfl (tyX11_ok 2 (by decide)) rfl rfl (dk DX11_init 9 rfl) (fun H locs hR => ?_)
  refine lv_aload_n hx hb (dk DX11_init 10 rfl) rfl (lv_at hl 0 rfl) ?_
  refine lv_sipush (v := (1135 : Int32)) hx hb (dk DX11_init 11 rfl) (by decide) ?_
  refine r_newi (N := 1135) C hR (by omega) hG (by repeat' (first | exact hW.up (by omega) | refine WB_.cons (by omega) ?_ | refine wb_Match (by omega) ?_ | refine wb_Law (by omega) ?_ | refine wb_Book (by omega) ?_ | refine wb_Ground (by omega) ?_ | refine wb_Text2 (by omega) ?_ | refine wb_Text4 (by omega) ?_ | refine wb_Odds (by omega) ?_ | refine wb_Past (by omega) ?_ | refine wb_GroundText (by omega) ?_ | refine wb_LawText (by omega) ?_ | refine wb_Mornings (by omega) ?_ | refine wb_TossGround (by omega) ?_)) rfl (gd q206 rfl) ⟨by decide, by decide⟩ (by decide) (by decide) (by decide) (dk DX11_init 12 rfl) (fun H hR => ?_)
  refine k_cells (k := 3) (n' := 4242) rfl rfl ?_
  have hR := k_at (n' := 82) hR rfl
  refine r_putR (o := 78) (k := 81) (ci := 11) (j := 3) (ty := tyX11 3) C hnm hR ⟨by decide, rfl⟩ rfl iX11 tyX11 tyX11_ok nmX11 (by decide) (by decide) rfl (gd q1647 rfl) (fun _ h => h) rfl rfl (tyX11_ok 3 (by decide)) rfl rfl (dk DX11_init 13 rfl) (fun H locs hR => ?_)
  refine lv_aload_n hx hb (dk DX11_init 14 rfl) rfl (lv_at hl 0 rfl) ?_
  refine lv_sipush (v := (3576 : Int32)) hx hb (dk DX11_init 15 rfl) (by decide) ?_
  refine r_newi (N := 3576) C hR (by omega) hG (by repeat' (first | exact hW.up (by omega) | refine WB_.cons (by omega) ?_ | refine wb_Match (by omega) ?_ | refine wb_Law (by omega) ?_ | refine wb_Book (by omega) ?_ | refine wb_Ground (by omega) ?_ | refine wb_Text2 (by omega) ?_ | refine wb_Text4 (by omega) ?_ | refine wb_Odds (by omega) ?_ | refine wb_Past (by omega) ?_ | refine wb_GroundText (by omega) ?_ | refine wb_LawText (by omega) ?_ | refine wb_Mornings (by omega) ?_ | refine wb_TossGround (by omega) ?_)) rfl (gd q206 rfl) ⟨by decide, by decide⟩ (by decide) (by decide) (by decide) (dk DX11_init 16 rfl) (fun H hR => ?_)
  refine k_cells (k := 4) (n' := 7818) rfl rfl ?_
  have hR := k_at (n' := 83) hR rfl
  refine r_putR (o := 78) (k := 82) (ci := 11) (j := 4) (ty := tyX11 4) C hnm hR ⟨by decide, rfl⟩ rfl iX11 tyX11 tyX11_ok nmX11 (by decide) (by decide) rfl (gd q1648 rfl) (fun _ h => h) rfl rfl (tyX11_ok 4 (by decide)) rfl rfl (dk DX11_init 17 rfl) (fun H locs hR => ?_)
  refine lv_aload_n hx hb (dk DX11_init 18 rfl) rfl (lv_at hl 0 rfl) ?_
  refine lv_sipush (v := (400 : Int32)) hx hb (dk DX11_init 19 rfl) (by decide) ?_
  refine r_newb (N := 400) C hR (by omega) hG (by repeat' (first | exact hW.up (by omega) | refine WB_.cons (by omega) ?_ | refine wb_Match (by omega) ?_ | refine wb_Law (by omega) ?_ | refine wb_Book (by omega) ?_ | refine wb_Ground (by omega) ?_ | refine wb_Text2 (by omega) ?_ | refine wb_Text4 (by omega) ?_ | refine wb_Odds (by omega) ?_ | refine wb_Past (by omega) ?_ | refine wb_GroundText (by omega) ?_ | refine wb_LawText (by omega) ?_ | refine wb_Mornings (by omega) ?_ | refine wb_TossGround (by omega) ?_)) rfl (gd q1071 rfl) ⟨by decide, by decide⟩ (by decide) (by decide) (by decide) (dk DX11_init 20 rfl) (fun H hR => ?_)
  refine k_cells (k := 5) (n' := 8218) rfl rfl ?_
  have hR := k_at (n' := 84) hR rfl
  refine r_putR (o := 78) (k := 83) (ci := 11) (j := 7) (ty := tyX11 7) C hnm hR ⟨by decide, rfl⟩ rfl iX11 tyX11 tyX11_ok nmX11 (by decide) (by decide) rfl (gd q1651 rfl) (fun _ h => h) rfl rfl (tyX11_ok 7 (by decide)) rfl rfl (dk DX11_init 21 rfl) (fun H locs hR => ?_)
  refine lv_aload_n hx hb (dk DX11_init 22 rfl) rfl (lv_at hl 0 rfl) ?_
  refine lv_iconst (v := (-1 : Int32)) hx hb (dk DX11_init 23 rfl) (by decide) ?_
  refine pX11_30 (o := 78) (x := (-1 : Int32)) C hR ⟨by decide, rfl⟩ (dk DX11_init 24 rfl) (fun H locs hR => ?_)
  have hR := k_I hR
  refine lv_aload_n hx hb (dk DX11_init 25 rfl) rfl (lv_at hl 0 rfl) ?_
  refine lv_iconst (v := (5 : Int32)) hx hb (dk DX11_init 26 rfl) (by decide) ?_
  refine r_newi (N := 5) C hR (by omega) hG (by repeat' (first | exact hW.up (by omega) | refine WB_.cons (by omega) ?_ | refine wb_Match (by omega) ?_ | refine wb_Law (by omega) ?_ | refine wb_Book (by omega) ?_ | refine wb_Ground (by omega) ?_ | refine wb_Text2 (by omega) ?_ | refine wb_Text4 (by omega) ?_ | refine wb_Odds (by omega) ?_ | refine wb_Past (by omega) ?_ | refine wb_GroundText (by omega) ?_ | refine wb_LawText (by omega) ?_ | refine wb_Mornings (by omega) ?_ | refine wb_TossGround (by omega) ?_)) rfl (gd q206 rfl) ⟨by decide, by decide⟩ (by decide) (by decide) (by decide) (dk DX11_init 27 rfl) (fun H hR => ?_)
  refine k_cells (k := 6) (n' := 8223) rfl rfl ?_
  have hR := k_at (n' := 85) hR rfl
  refine r_putR (o := 78) (k := 84) (ci := 11) (j := 14) (ty := tyX11 14) C hnm hR ⟨by decide, rfl⟩ rfl iX11 tyX11 tyX11_ok nmX11 (by decide) (by decide) rfl (gd q1658 rfl) (fun _ h => h) rfl rfl (tyX11_ok 14 (by decide)) rfl rfl (dk DX11_init 28 rfl) (fun H locs hR => ?_)
  refine lv_aload_n hx hb (dk DX11_init 29 rfl) rfl (lv_at hl 0 rfl) ?_
  refine lv_sipush (v := (400 : Int32)) hx hb (dk DX11_init 30 rfl) (by decide) ?_
  refine r_newi (N := 400) C hR (by omega) hG (by repeat' (first | exact hW.up (by omega) | refine WB_.cons (by omega) ?_ | refine wb_Match (by omega) ?_ | refine wb_Law (by omega) ?_ | refine wb_Book (by omega) ?_ | refine wb_Ground (by omega) ?_ | refine wb_Text2 (by omega) ?_ | refine wb_Text4 (by omega) ?_ | refine wb_Odds (by omega) ?_ | refine wb_Past (by omega) ?_ | refine wb_GroundText (by omega) ?_ | refine wb_LawText (by omega) ?_ | refine wb_Mornings (by omega) ?_ | refine wb_TossGround (by omega) ?_)) rfl (gd q206 rfl) ⟨by decide, by decide⟩ (by decide) (by decide) (by decide) (dk DX11_init 31 rfl) (fun H hR => ?_)
  refine k_cells (k := 7) (n' := 8623) rfl rfl ?_
  have hR := k_at (n' := 86) hR rfl
  refine r_putR (o := 78) (k := 85) (ci := 11) (j := 16) (ty := tyX11 16) C hnm hR ⟨by decide, rfl⟩ rfl iX11 tyX11 tyX11_ok nmX11 (by decide) (by decide) rfl (gd q1660 rfl) (fun _ h => h) rfl rfl (tyX11_ok 16 (by decide)) rfl rfl (dk DX11_init 32 rfl) (fun H locs hR => ?_)
  refine lv_aload_n hx hb (dk DX11_init 33 rfl) rfl (lv_at hl 0 rfl) ?_
  refine lv_ldc (v := (42900 : Int32)) hx hb C.1.2.2.2.1 (C.1.2.2.2.2 _ (gd q1643 rfl)) (dk DX11_init 34 rfl) ?_
  refine r_newi (N := 42900) C hR (by omega) hG (by repeat' (first | exact hW.up (by omega) | refine WB_.cons (by omega) ?_ | refine wb_Match (by omega) ?_ | refine wb_Law (by omega) ?_ | refine wb_Book (by omega) ?_ | refine wb_Ground (by omega) ?_ | refine wb_Text2 (by omega) ?_ | refine wb_Text4 (by omega) ?_ | refine wb_Odds (by omega) ?_ | refine wb_Past (by omega) ?_ | refine wb_GroundText (by omega) ?_ | refine wb_LawText (by omega) ?_ | refine wb_Mornings (by omega) ?_ | refine wb_TossGround (by omega) ?_)) rfl (gd q206 rfl) ⟨by decide, by decide⟩ (by decide) (by decide) (by decide) (dk DX11_init 35 rfl) (fun H hR => ?_)
  refine k_cells (k := 8) (n' := 51523) rfl rfl ?_
  have hR := k_at (n' := 87) hR rfl
  refine r_putR (o := 78) (k := 86) (ci := 11) (j := 17) (ty := tyX11 17) C hnm hR ⟨by decide, rfl⟩ rfl iX11 tyX11 tyX11_ok nmX11 (by decide) (by decide) rfl (gd q1661 rfl) (fun _ h => h) rfl rfl (tyX11_ok 17 (by decide)) rfl rfl (dk DX11_init 36 rfl) (fun H locs hR => ?_)
  refine lv_aload_n hx hb (dk DX11_init 37 rfl) rfl (lv_at hl 0 rfl) ?_
  refine lv_ldc (v := (42900 : Int32)) hx hb C.1.2.2.2.1 (C.1.2.2.2.2 _ (gd q1643 rfl)) (dk DX11_init 38 rfl) ?_
  refine r_newi (N := 42900) C hR (by omega) hG (by repeat' (first | exact hW.up (by omega) | refine WB_.cons (by omega) ?_ | refine wb_Match (by omega) ?_ | refine wb_Law (by omega) ?_ | refine wb_Book (by omega) ?_ | refine wb_Ground (by omega) ?_ | refine wb_Text2 (by omega) ?_ | refine wb_Text4 (by omega) ?_ | refine wb_Odds (by omega) ?_ | refine wb_Past (by omega) ?_ | refine wb_GroundText (by omega) ?_ | refine wb_LawText (by omega) ?_ | refine wb_Mornings (by omega) ?_ | refine wb_TossGround (by omega) ?_)) rfl (gd q206 rfl) ⟨by decide, by decide⟩ (by decide) (by decide) (by decide) (dk DX11_init 39 rfl) (fun H hR => ?_)
  refine k_cells (k := 9) (n' := 94423) rfl rfl ?_
  have hR := k_at (n' := 88) hR rfl
  refine r_putR (o := 78) (k := 87) (ci := 11) (j := 18) (ty := tyX11 18) C hnm hR ⟨by decide, rfl⟩ rfl iX11 tyX11 tyX11_ok nmX11 (by decide) (by decide) rfl (gd q1662 rfl) (fun _ h => h) rfl rfl (tyX11_ok 18 (by decide)) rfl rfl (dk DX11_init 40 rfl) (fun H locs hR => ?_)
  refine lv_aload_n hx hb (dk DX11_init 41 rfl) rfl (lv_at hl 0 rfl) ?_
  refine lv_bipush (v := (6 : Int32)) hx hb (dk DX11_init 42 rfl) (by decide) ?_
  refine r_newi (N := 6) C hR (by omega) hG (by repeat' (first | exact hW.up (by omega) | refine WB_.cons (by omega) ?_ | refine wb_Match (by omega) ?_ | refine wb_Law (by omega) ?_ | refine wb_Book (by omega) ?_ | refine wb_Ground (by omega) ?_ | refine wb_Text2 (by omega) ?_ | refine wb_Text4 (by omega) ?_ | refine wb_Odds (by omega) ?_ | refine wb_Past (by omega) ?_ | refine wb_GroundText (by omega) ?_ | refine wb_LawText (by omega) ?_ | refine wb_Mornings (by omega) ?_ | refine wb_TossGround (by omega) ?_)) rfl (gd q206 rfl) ⟨by decide, by decide⟩ (by decide) (by decide) (by decide) (dk DX11_init 43 rfl) (fun H hR => ?_)
  refine k_cells (k := 10) (n' := 94429) rfl rfl ?_
  have hR := k_at (n' := 89) hR rfl
  refine r_putR (o := 78) (k := 88) (ci := 11) (j := 19) (ty := tyX11 19) C hnm hR ⟨by decide, rfl⟩ rfl iX11 tyX11 tyX11_ok nmX11 (by decide) (by decide) rfl (gd q1663 rfl) (fun _ h => h) rfl rfl (tyX11_ok 19 (by decide)) rfl rfl (dk DX11_init 44 rfl) (fun H locs hR => ?_)
  refine lv_aload_n hx hb (dk DX11_init 45 rfl) rfl (lv_at hl 0 rfl) ?_
  refine lv_iconst (v := (2 : Int32)) hx hb (dk DX11_init 46 rfl) (by decide) ?_
  refine r_newl (N := 2) C hR (by omega) hG (by repeat' (first | exact hW.up (by omega) | refine WB_.cons (by omega) ?_ | refine wb_Match (by omega) ?_ | refine wb_Law (by omega) ?_ | refine wb_Book (by omega) ?_ | refine wb_Ground (by omega) ?_ | refine wb_Text2 (by omega) ?_ | refine wb_Text4 (by omega) ?_ | refine wb_Odds (by omega) ?_ | refine wb_Past (by omega) ?_ | refine wb_GroundText (by omega) ?_ | refine wb_LawText (by omega) ?_ | refine wb_Mornings (by omega) ?_ | refine wb_TossGround (by omega) ?_)) rfl (gd q315 rfl) ⟨by decide, by decide⟩ (by decide) (by decide) (by decide) (dk DX11_init 47 rfl) (fun H hR => ?_)
  refine k_cells (k := 11) (n' := 94431) rfl rfl ?_
  have hR := k_at (n' := 90) hR rfl
  refine r_putR (o := 78) (k := 89) (ci := 11) (j := 25) (ty := tyX11 25) C hnm hR ⟨by decide, rfl⟩ rfl iX11 tyX11 tyX11_ok nmX11 (by decide) (by decide) rfl (gd q1669 rfl) (fun _ h => h) rfl rfl (tyX11_ok 25 (by decide)) rfl rfl (dk DX11_init 48 rfl) (fun H locs hR => ?_)
  refine lv_aload_n hx hb (dk DX11_init 49 rfl) rfl (lv_at hl 0 rfl) ?_
  refine lv_sipush (v := (298 : Int32)) hx hb (dk DX11_init 50 rfl) (by decide) ?_
  refine r_newi (N := 298) C hR (by omega) hG (by repeat' (first | exact hW.up (by omega) | refine WB_.cons (by omega) ?_ | refine wb_Match (by omega) ?_ | refine wb_Law (by omega) ?_ | refine wb_Book (by omega) ?_ | refine wb_Ground (by omega) ?_ | refine wb_Text2 (by omega) ?_ | refine wb_Text4 (by omega) ?_ | refine wb_Odds (by omega) ?_ | refine wb_Past (by omega) ?_ | refine wb_GroundText (by omega) ?_ | refine wb_LawText (by omega) ?_ | refine wb_Mornings (by omega) ?_ | refine wb_TossGround (by omega) ?_)) rfl (gd q206 rfl) ⟨by decide, by decide⟩ (by decide) (by decide) (by decide) (dk DX11_init 51 rfl) (fun H hR => ?_)
  refine k_cells (k := 12) (n' := 94729) rfl rfl ?_
  have hR := k_at (n' := 91) hR rfl
  refine r_putR (o := 78) (k := 90) (ci := 11) (j := 26) (ty := tyX11 26) C hnm hR ⟨by decide, rfl⟩ rfl iX11 tyX11 tyX11_ok nmX11 (by decide) (by decide) rfl (gd q1670 rfl) (fun _ h => h) rfl rfl (tyX11_ok 26 (by decide)) rfl rfl (dk DX11_init 52 rfl) (fun H locs hR => ?_)
  refine lv_aload_n hx hb (dk DX11_init 53 rfl) rfl (lv_at hl 0 rfl) ?_
  refine gX11_13 (o := 78) (k := 79) C hR ⟨by decide, rfl⟩ rfl (dk DX11_init 54 rfl) ?_
  refine lv_iconst (v := (0 : Int32)) hx hb (dk DX11_init 55 rfl) (by decide) ?_
  refine lv_bipush (v := (6 : Int32)) hx hb (dk DX11_init 56 rfl) (by decide) ?_
  refine k_iast (o := 79) (j := 0) C hR ⟨by decide, rfl⟩ rfl (by decide) (dk DX11_init 57 rfl) (fun H locs hR => ?_)
  refine lv_aload_n hx hb (dk DX11_init 58 rfl) rfl (lv_at hl 0 rfl) ?_
  refine gX11_13 (o := 78) (k := 79) C hR ⟨by decide, rfl⟩ rfl (dk DX11_init 59 rfl) ?_
  refine lv_iconst (v := (1 : Int32)) hx hb (dk DX11_init 60 rfl) (by decide) ?_
  refine lv_bipush (v := (15 : Int32)) hx hb (dk DX11_init 61 rfl) (by decide) ?_
  refine k_iast (o := 79) (j := 1) C hR ⟨by decide, rfl⟩ rfl (by decide) (dk DX11_init 62 rfl) (fun H locs hR => ?_)
  refine lv_aload_n hx hb (dk DX11_init 63 rfl) rfl (lv_at hl 0 rfl) ?_
  refine gX11_13 (o := 78) (k := 79) C hR ⟨by decide, rfl⟩ rfl (dk DX11_init 64 rfl) ?_
  refine lv_iconst (v := (2 : Int32)) hx hb (dk DX11_init 65 rfl) (by decide) ?_
  refine lv_bipush (v := (40 : Int32)) hx hb (dk DX11_init 66 rfl) (by decide) ?_
  refine k_iast (o := 79) (j := 2) C hR ⟨by decide, rfl⟩ rfl (by decide) (dk DX11_init 67 rfl) (fun H locs hR => ?_)
  refine lv_aload_n hx hb (dk DX11_init 68 rfl) rfl (lv_at hl 0 rfl) ?_
  refine gX11_13 (o := 78) (k := 79) C hR ⟨by decide, rfl⟩ rfl (dk DX11_init 69 rfl) ?_
  refine lv_bipush (v := (9 : Int32)) hx hb (dk DX11_init 70 rfl) (by decide) ?_
  refine lv_iconst (v := (1 : Int32)) hx hb (dk DX11_init 71 rfl) (by decide) ?_
  refine k_iast (o := 79) (j := 9) C hR ⟨by decide, rfl⟩ rfl (by decide) (dk DX11_init 72 rfl) (fun H locs hR => ?_)
  refine lv_aload_n hx hb (dk DX11_init 73 rfl) rfl (lv_at hl 0 rfl) ?_
  refine gX11_13 (o := 78) (k := 79) C hR ⟨by decide, rfl⟩ rfl (dk DX11_init 74 rfl) ?_
  refine lv_bipush (v := (10 : Int32)) hx hb (dk DX11_init 75 rfl) (by decide) ?_
  refine lv_iconst (v := (-1 : Int32)) hx hb (dk DX11_init 76 rfl) (by decide) ?_
  refine k_iast (o := 79) (j := 10) C hR ⟨by decide, rfl⟩ rfl (by decide) (dk DX11_init 77 rfl) (fun H locs hR => ?_)
  refine lv_aload_n hx hb (dk DX11_init 78 rfl) rfl (lv_at hl 0 rfl) ?_
  refine gX11_13 (o := 78) (k := 79) C hR ⟨by decide, rfl⟩ rfl (dk DX11_init 79 rfl) ?_
  refine lv_bipush (v := (18 : Int32)) hx hb (dk DX11_init 80 rfl) (by decide) ?_
  refine lv_iconst (v := (-1 : Int32)) hx hb (dk DX11_init 81 rfl) (by decide) ?_
  refine k_iast (o := 79) (j := 18) C hR ⟨by decide, rfl⟩ rfl (by decide) (dk DX11_init 82 rfl) (fun H locs hR => ?_)
  refine lv_iconst (v := (0 : Int32)) hx hb (dk DX11_init 83 rfl) (by decide) ?_
  refine lv_istore_n (lv' := [(1, .int (0 : Int32)), (0, .ref (G.2.1 + 78))]) hx hb (dk DX11_init 84 rfl) rfl hl (by decide) rfl (fun ls hl => ?_)
  refine lv_iload_n hx hb (dk DX11_init 85 rfl) rfl (lv_at hl 0 rfl) ?_
  refine lv_iconst (v := (4 : Int32)) hx hb (dk DX11_init 86 rfl) (by decide) ?_
  refine lv_icmp_ge (tgt := 181) hx hb (dk DX11_init 87 rfl) (by decide) (fun h => absurd h (by decide)) (fun _ => ?_)
  refine lv_aload_n hx hb (dk DX11_init 88 rfl) rfl (lv_at hl 1 rfl) ?_
  refine gX11_13 (o := 78) (k := 79) C hR ⟨by decide, rfl⟩ rfl (dk DX11_init 89 rfl) ?_
  refine lv_bipush (v := (19 : Int32)) hx hb (dk DX11_init 90 rfl) (by decide) ?_
  refine lv_iload_n hx hb (dk DX11_init 91 rfl) rfl (lv_at hl 0 rfl) ?_
  refine lv_iadd hx hb (dk DX11_init 92 rfl) ?_
  refine k_top (x := (19 : Int32)) (by decide) ?_
  refine lv_iconst (v := (5 : Int32)) hx hb (dk DX11_init 93 rfl) (by decide) ?_
  refine k_iast (o := 79) (j := 19) C hR ⟨by decide, rfl⟩ rfl (by decide) (dk DX11_init 94 rfl) (fun H locs hR => ?_)
  refine lv_iinc (v := (1 : Int32)) (lv' := [(1, .int (1 : Int32)), (0, .ref (G.2.1 + 78))]) hx hb (dk DX11_init 95 rfl) hl (k := 0) rfl (by decide) (by decide) rfl (fun ls hl => ?_)
  refine lv_goto (tgt := 160) hx hb (dk DX11_init 96 rfl) (by decide) ?_
  refine lv_iload_n hx hb (dk DX11_init 85 rfl) rfl (lv_at hl 0 rfl) ?_
  refine lv_iconst (v := (4 : Int32)) hx hb (dk DX11_init 86 rfl) (by decide) ?_
  refine lv_icmp_ge (tgt := 181) hx hb (dk DX11_init 87 rfl) (by decide) (fun h => absurd h (by decide)) (fun _ => ?_)
  refine lv_aload_n hx hb (dk DX11_init 88 rfl) rfl (lv_at hl 1 rfl) ?_
  refine gX11_13 (o := 78) (k := 79) C hR ⟨by decide, rfl⟩ rfl (dk DX11_init 89 rfl) ?_
  refine lv_bipush (v := (19 : Int32)) hx hb (dk DX11_init 90 rfl) (by decide) ?_
  refine lv_iload_n hx hb (dk DX11_init 91 rfl) rfl (lv_at hl 0 rfl) ?_
  refine lv_iadd hx hb (dk DX11_init 92 rfl) ?_
  refine k_top (x := (20 : Int32)) (by decide) ?_
  refine lv_iconst (v := (5 : Int32)) hx hb (dk DX11_init 93 rfl) (by decide) ?_
  refine k_iast (o := 79) (j := 20) C hR ⟨by decide, rfl⟩ rfl (by decide) (dk DX11_init 94 rfl) (fun H locs hR => ?_)
  refine lv_iinc (v := (2 : Int32)) (lv' := [(1, .int (2 : Int32)), (0, .ref (G.2.1 + 78))]) hx hb (dk DX11_init 95 rfl) hl (k := 0) rfl (by decide) (by decide) rfl (fun ls hl => ?_)
  refine lv_goto (tgt := 160) hx hb (dk DX11_init 96 rfl) (by decide) ?_
  refine lv_iload_n hx hb (dk DX11_init 85 rfl) rfl (lv_at hl 0 rfl) ?_
  refine lv_iconst (v := (4 : Int32)) hx hb (dk DX11_init 86 rfl) (by decide) ?_
  refine lv_icmp_ge (tgt := 181) hx hb (dk DX11_init 87 rfl) (by decide) (fun h => absurd h (by decide)) (fun _ => ?_)
  refine lv_aload_n hx hb (dk DX11_init 88 rfl) rfl (lv_at hl 1 rfl) ?_
  refine gX11_13 (o := 78) (k := 79) C hR ⟨by decide, rfl⟩ rfl (dk DX11_init 89 rfl) ?_
  refine lv_bipush (v := (19 : Int32)) hx hb (dk DX11_init 90 rfl) (by decide) ?_
  refine lv_iload_n hx hb (dk DX11_init 91 rfl) rfl (lv_at hl 0 rfl) ?_
  refine lv_iadd hx hb (dk DX11_init 92 rfl) ?_
  refine k_top (x := (21 : Int32)) (by decide) ?_
  refine lv_iconst (v := (5 : Int32)) hx hb (dk DX11_init 93 rfl) (by decide) ?_
  refine k_iast (o := 79) (j := 21) C hR ⟨by decide, rfl⟩ rfl (by decide) (dk DX11_init 94 rfl) (fun H locs hR => ?_)
  refine lv_iinc (v := (3 : Int32)) (lv' := [(1, .int (3 : Int32)), (0, .ref (G.2.1 + 78))]) hx hb (dk DX11_init 95 rfl) hl (k := 0) rfl (by decide) (by decide) rfl (fun ls hl => ?_)
  refine lv_goto (tgt := 160) hx hb (dk DX11_init 96 rfl) (by decide) ?_
  refine lv_iload_n hx hb (dk DX11_init 85 rfl) rfl (lv_at hl 0 rfl) ?_
  refine lv_iconst (v := (4 : Int32)) hx hb (dk DX11_init 86 rfl) (by decide) ?_
  refine lv_icmp_ge (tgt := 181) hx hb (dk DX11_init 87 rfl) (by decide) (fun h => absurd h (by decide)) (fun _ => ?_)
  refine lv_aload_n hx hb (dk DX11_init 88 rfl) rfl (lv_at hl 1 rfl) ?_
  refine gX11_13 (o := 78) (k := 79) C hR ⟨by decide, rfl⟩ rfl (dk DX11_init 89 rfl) ?_
  refine lv_bipush (v := (19 : Int32)) hx hb (dk DX11_init 90 rfl) (by decide) ?_
  refine lv_iload_n hx hb (dk DX11_init 91 rfl) rfl (lv_at hl 0 rfl) ?_
  refine lv_iadd hx hb (dk DX11_init 92 rfl) ?_
  refine k_top (x := (22 : Int32)) (by decide) ?_
  refine lv_iconst (v := (5 : Int32)) hx hb (dk DX11_init 93 rfl) (by decide) ?_
  refine k_iast (o := 79) (j := 22) C hR ⟨by decide, rfl⟩ rfl (by decide) (dk DX11_init 94 rfl) (fun H locs hR => ?_)
  refine lv_iinc (v := (4 : Int32)) (lv' := [(1, .int (4 : Int32)), (0, .ref (G.2.1 + 78))]) hx hb (dk DX11_init 95 rfl) hl (k := 0) rfl (by decide) (by decide) rfl (fun ls hl => ?_)
  refine lv_goto (tgt := 160) hx hb (dk DX11_init 96 rfl) (by decide) ?_
  refine lv_iload_n hx hb (dk DX11_init 85 rfl) rfl (lv_at hl 0 rfl) ?_
  refine lv_iconst (v := (4 : Int32)) hx hb (dk DX11_init 86 rfl) (by decide) ?_
  refine lv_icmp_ge (tgt := 181) hx hb (dk DX11_init 87 rfl) (by decide) (fun _ => ?_) (fun h => absurd (by decide) h)
  refine lv_iconst (v := (0 : Int32)) hx hb (dk DX11_init 97 rfl) (by decide) ?_
  refine lv_istore_n (lv' := [(1, .int (0 : Int32)), (0, .ref (G.2.1 + 78))]) hx hb (dk DX11_init 98 rfl) rfl hl (by decide) rfl (fun ls hl => ?_)
  refine lv_iload_n hx hb (dk DX11_init 99 rfl) rfl (lv_at hl 0 rfl) ?_
  refine lv_bipush (v := (16 : Int32)) hx hb (dk DX11_init 100 rfl) (by decide) ?_
  refine lv_icmp_ge (tgt := 221) hx hb (dk DX11_init 101 rfl) (by decide) (fun h => absurd h (by decide)) (fun _ => ?_)
  refine lv_aload_n hx hb (dk DX11_init 102 rfl) rfl (lv_at hl 1 rfl) ?_
  refine gX11_13 (o := 78) (k := 79) C hR ⟨by decide, rfl⟩ rfl (dk DX11_init 103 rfl) ?_
  refine lv_bipush (v := (23 : Int32)) hx hb (dk DX11_init 104 rfl) (by decide) ?_
  refine lv_iconst (v := (2 : Int32)) hx hb (dk DX11_init 105 rfl) (by decide) ?_
  refine lv_iload_n hx hb (dk DX11_init 106 rfl) rfl (lv_at hl 0 rfl) ?_
  refine lv_imul hx hb (dk DX11_init 107 rfl) ?_
  refine k_top (x := (0 : Int32)) (by decide) ?_
  refine lv_iadd hx hb (dk DX11_init 108 rfl) ?_
  refine k_top (x := (23 : Int32)) (by decide) ?_
  refine lv_iconst (v := (3 : Int32)) hx hb (dk DX11_init 109 rfl) (by decide) ?_
  refine k_iast (o := 79) (j := 23) C hR ⟨by decide, rfl⟩ rfl (by decide) (dk DX11_init 110 rfl) (fun H locs hR => ?_)
  refine lv_aload_n hx hb (dk DX11_init 111 rfl) rfl (lv_at hl 1 rfl) ?_
  refine gX11_13 (o := 78) (k := 79) C hR ⟨by decide, rfl⟩ rfl (dk DX11_init 112 rfl) ?_
  refine lv_bipush (v := (23 : Int32)) hx hb (dk DX11_init 113 rfl) (by decide) ?_
  refine lv_iconst (v := (2 : Int32)) hx hb (dk DX11_init 114 rfl) (by decide) ?_
  refine lv_iload_n hx hb (dk DX11_init 115 rfl) rfl (lv_at hl 0 rfl) ?_
  refine lv_imul hx hb (dk DX11_init 116 rfl) ?_
  refine k_top (x := (0 : Int32)) (by decide) ?_
  refine lv_iadd hx hb (dk DX11_init 117 rfl) ?_
  refine k_top (x := (23 : Int32)) (by decide) ?_
  refine lv_iconst (v := (1 : Int32)) hx hb (dk DX11_init 118 rfl) (by decide) ?_
  refine lv_iadd hx hb (dk DX11_init 119 rfl) ?_
  refine k_top (x := (24 : Int32)) (by decide) ?_
  refine lv_iconst (v := (2 : Int32)) hx hb (dk DX11_init 120 rfl) (by decide) ?_
  refine k_iast (o := 79) (j := 24) C hR ⟨by decide, rfl⟩ rfl (by decide) (dk DX11_init 121 rfl) (fun H locs hR => ?_)
  refine lv_iinc (v := (1 : Int32)) (lv' := [(1, .int (1 : Int32)), (0, .ref (G.2.1 + 78))]) hx hb (dk DX11_init 122 rfl) hl (k := 0) rfl (by decide) (by decide) rfl (fun ls hl => ?_)
  refine lv_goto (tgt := 183) hx hb (dk DX11_init 123 rfl) (by decide) ?_
  refine lv_iload_n hx hb (dk DX11_init 99 rfl) rfl (lv_at hl 0 rfl) ?_
  refine lv_bipush (v := (16 : Int32)) hx hb (dk DX11_init 100 rfl) (by decide) ?_
  refine lv_icmp_ge (tgt := 221) hx hb (dk DX11_init 101 rfl) (by decide) (fun h => absurd h (by decide)) (fun _ => ?_)
  refine lv_aload_n hx hb (dk DX11_init 102 rfl) rfl (lv_at hl 1 rfl) ?_
  refine gX11_13 (o := 78) (k := 79) C hR ⟨by decide, rfl⟩ rfl (dk DX11_init 103 rfl) ?_
  refine lv_bipush (v := (23 : Int32)) hx hb (dk DX11_init 104 rfl) (by decide) ?_
  refine lv_iconst (v := (2 : Int32)) hx hb (dk DX11_init 105 rfl) (by decide) ?_
  refine lv_iload_n hx hb (dk DX11_init 106 rfl) rfl (lv_at hl 0 rfl) ?_
  refine lv_imul hx hb (dk DX11_init 107 rfl) ?_
  refine k_top (x := (2 : Int32)) (by decide) ?_
  refine lv_iadd hx hb (dk DX11_init 108 rfl) ?_
  refine k_top (x := (25 : Int32)) (by decide) ?_
  refine lv_iconst (v := (3 : Int32)) hx hb (dk DX11_init 109 rfl) (by decide) ?_
  refine k_iast (o := 79) (j := 25) C hR ⟨by decide, rfl⟩ rfl (by decide) (dk DX11_init 110 rfl) (fun H locs hR => ?_)
  refine lv_aload_n hx hb (dk DX11_init 111 rfl) rfl (lv_at hl 1 rfl) ?_
  refine gX11_13 (o := 78) (k := 79) C hR ⟨by decide, rfl⟩ rfl (dk DX11_init 112 rfl) ?_
  refine lv_bipush (v := (23 : Int32)) hx hb (dk DX11_init 113 rfl) (by decide) ?_
  refine lv_iconst (v := (2 : Int32)) hx hb (dk DX11_init 114 rfl) (by decide) ?_
  refine lv_iload_n hx hb (dk DX11_init 115 rfl) rfl (lv_at hl 0 rfl) ?_
  refine lv_imul hx hb (dk DX11_init 116 rfl) ?_
  refine k_top (x := (2 : Int32)) (by decide) ?_
  refine lv_iadd hx hb (dk DX11_init 117 rfl) ?_
  refine k_top (x := (25 : Int32)) (by decide) ?_
  refine lv_iconst (v := (1 : Int32)) hx hb (dk DX11_init 118 rfl) (by decide) ?_
  refine lv_iadd hx hb (dk DX11_init 119 rfl) ?_
  refine k_top (x := (26 : Int32)) (by decide) ?_
  refine lv_iconst (v := (2 : Int32)) hx hb (dk DX11_init 120 rfl) (by decide) ?_
  refine k_iast (o := 79) (j := 26) C hR ⟨by decide, rfl⟩ rfl (by decide) (dk DX11_init 121 rfl) (fun H locs hR => ?_)
  refine lv_iinc (v := (2 : Int32)) (lv' := [(1, .int (2 : Int32)), (0, .ref (G.2.1 + 78))]) hx hb (dk DX11_init 122 rfl) hl (k := 0) rfl (by decide) (by decide) rfl (fun ls hl => ?_)
  refine lv_goto (tgt := 183) hx hb (dk DX11_init 123 rfl) (by decide) ?_
  refine lv_iload_n hx hb (dk DX11_init 99 rfl) rfl (lv_at hl 0 rfl) ?_
  refine lv_bipush (v := (16 : Int32)) hx hb (dk DX11_init 100 rfl) (by decide) ?_
  refine lv_icmp_ge (tgt := 221) hx hb (dk DX11_init 101 rfl) (by decide) (fun h => absurd h (by decide)) (fun _ => ?_)
  refine lv_aload_n hx hb (dk DX11_init 102 rfl) rfl (lv_at hl 1 rfl) ?_
  refine gX11_13 (o := 78) (k := 79) C hR ⟨by decide, rfl⟩ rfl (dk DX11_init 103 rfl) ?_
  refine lv_bipush (v := (23 : Int32)) hx hb (dk DX11_init 104 rfl) (by decide) ?_
  refine lv_iconst (v := (2 : Int32)) hx hb (dk DX11_init 105 rfl) (by decide) ?_
  refine lv_iload_n hx hb (dk DX11_init 106 rfl) rfl (lv_at hl 0 rfl) ?_
  refine lv_imul hx hb (dk DX11_init 107 rfl) ?_
  refine k_top (x := (4 : Int32)) (by decide) ?_
  refine lv_iadd hx hb (dk DX11_init 108 rfl) ?_
  refine k_top (x := (27 : Int32)) (by decide) ?_
  refine lv_iconst (v := (3 : Int32)) hx hb (dk DX11_init 109 rfl) (by decide) ?_
  refine k_iast (o := 79) (j := 27) C hR ⟨by decide, rfl⟩ rfl (by decide) (dk DX11_init 110 rfl) (fun H locs hR => ?_)
  refine lv_aload_n hx hb (dk DX11_init 111 rfl) rfl (lv_at hl 1 rfl) ?_
  refine gX11_13 (o := 78) (k := 79) C hR ⟨by decide, rfl⟩ rfl (dk DX11_init 112 rfl) ?_
  refine lv_bipush (v := (23 : Int32)) hx hb (dk DX11_init 113 rfl) (by decide) ?_
  refine lv_iconst (v := (2 : Int32)) hx hb (dk DX11_init 114 rfl) (by decide) ?_
  refine lv_iload_n hx hb (dk DX11_init 115 rfl) rfl (lv_at hl 0 rfl) ?_
  refine lv_imul hx hb (dk DX11_init 116 rfl) ?_
  refine k_top (x := (4 : Int32)) (by decide) ?_
  refine lv_iadd hx hb (dk DX11_init 117 rfl) ?_
  refine k_top (x := (27 : Int32)) (by decide) ?_
  refine lv_iconst (v := (1 : Int32)) hx hb (dk DX11_init 118 rfl) (by decide) ?_
  refine lv_iadd hx hb (dk DX11_init 119 rfl) ?_
  refine k_top (x := (28 : Int32)) (by decide) ?_
  refine lv_iconst (v := (2 : Int32)) hx hb (dk DX11_init 120 rfl) (by decide) ?_
  refine k_iast (o := 79) (j := 28) C hR ⟨by decide, rfl⟩ rfl (by decide) (dk DX11_init 121 rfl) (fun H locs hR => ?_)
  refine lv_iinc (v := (3 : Int32)) (lv' := [(1, .int (3 : Int32)), (0, .ref (G.2.1 + 78))]) hx hb (dk DX11_init 122 rfl) hl (k := 0) rfl (by decide) (by decide) rfl (fun ls hl => ?_)
  refine lv_goto (tgt := 183) hx hb (dk DX11_init 123 rfl) (by decide) ?_
  refine lv_iload_n hx hb (dk DX11_init 99 rfl) rfl (lv_at hl 0 rfl) ?_
  refine lv_bipush (v := (16 : Int32)) hx hb (dk DX11_init 100 rfl) (by decide) ?_
  refine lv_icmp_ge (tgt := 221) hx hb (dk DX11_init 101 rfl) (by decide) (fun h => absurd h (by decide)) (fun _ => ?_)
  refine lv_aload_n hx hb (dk DX11_init 102 rfl) rfl (lv_at hl 1 rfl) ?_
  refine gX11_13 (o := 78) (k := 79) C hR ⟨by decide, rfl⟩ rfl (dk DX11_init 103 rfl) ?_
  refine lv_bipush (v := (23 : Int32)) hx hb (dk DX11_init 104 rfl) (by decide) ?_
  refine lv_iconst (v := (2 : Int32)) hx hb (dk DX11_init 105 rfl) (by decide) ?_
  refine lv_iload_n hx hb (dk DX11_init 106 rfl) rfl (lv_at hl 0 rfl) ?_
  refine lv_imul hx hb (dk DX11_init 107 rfl) ?_
  refine k_top (x := (6 : Int32)) (by decide) ?_
  refine lv_iadd hx hb (dk DX11_init 108 rfl) ?_
  refine k_top (x := (29 : Int32)) (by decide) ?_
  refine lv_iconst (v := (3 : Int32)) hx hb (dk DX11_init 109 rfl) (by decide) ?_
  refine k_iast (o := 79) (j := 29) C hR ⟨by decide, rfl⟩ rfl (by decide) (dk DX11_init 110 rfl) (fun H locs hR => ?_)
  refine lv_aload_n hx hb (dk DX11_init 111 rfl) rfl (lv_at hl 1 rfl) ?_
  refine gX11_13 (o := 78) (k := 79) C hR ⟨by decide, rfl⟩ rfl (dk DX11_init 112 rfl) ?_
  refine lv_bipush (v := (23 : Int32)) hx hb (dk DX11_init 113 rfl) (by decide) ?_
  refine lv_iconst (v := (2 : Int32)) hx hb (dk DX11_init 114 rfl) (by decide) ?_
  refine lv_iload_n hx hb (dk DX11_init 115 rfl) rfl (lv_at hl 0 rfl) ?_
  refine lv_imul hx hb (dk DX11_init 116 rfl) ?_
  refine k_top (x := (6 : Int32)) (by decide) ?_
  refine lv_iadd hx hb (dk DX11_init 117 rfl) ?_
  refine k_top (x := (29 : Int32)) (by decide) ?_
  refine lv_iconst (v := (1 : Int32)) hx hb (dk DX11_init 118 rfl) (by decide) ?_
  refine lv_iadd hx hb (dk DX11_init 119 rfl) ?_
  refine k_top (x := (30 : Int32)) (by decide) ?_
  refine lv_iconst (v := (2 : Int32)) hx hb (dk DX11_init 120 rfl) (by decide) ?_
  refine k_iast (o := 79) (j := 30) C hR ⟨by decide, rfl⟩ rfl (by decide) (dk DX11_init 121 rfl) (fun H locs hR => ?_)
  refine lv_iinc (v := (4 : Int32)) (lv' := [(1, .int (4 : Int32)), (0, .ref (G.2.1 + 78))]) hx hb (dk DX11_init 122 rfl) hl (k := 0) rfl (by decide) (by decide) rfl (fun ls hl => ?_)
  refine lv_goto (tgt := 183) hx hb (dk DX11_init 123 rfl) (by decide) ?_
  refine lv_iload_n hx hb (dk DX11_init 99 rfl) rfl (lv_at hl 0 rfl) ?_
  refine lv_bipush (v := (16 : Int32)) hx hb (dk DX11_init 100 rfl) (by decide) ?_
  refine lv_icmp_ge (tgt := 221) hx hb (dk DX11_init 101 rfl) (by decide) (fun h => absurd h (by decide)) (fun _ => ?_)
  refine lv_aload_n hx hb (dk DX11_init 102 rfl) rfl (lv_at hl 1 rfl) ?_
  refine gX11_13 (o := 78) (k := 79) C hR ⟨by decide, rfl⟩ rfl (dk DX11_init 103 rfl) ?_
  refine lv_bipush (v := (23 : Int32)) hx hb (dk DX11_init 104 rfl) (by decide) ?_
  refine lv_iconst (v := (2 : Int32)) hx hb (dk DX11_init 105 rfl) (by decide) ?_
  refine lv_iload_n hx hb (dk DX11_init 106 rfl) rfl (lv_at hl 0 rfl) ?_
  refine lv_imul hx hb (dk DX11_init 107 rfl) ?_
  refine k_top (x := (8 : Int32)) (by decide) ?_
  refine lv_iadd hx hb (dk DX11_init 108 rfl) ?_
  refine k_top (x := (31 : Int32)) (by decide) ?_
  refine lv_iconst (v := (3 : Int32)) hx hb (dk DX11_init 109 rfl) (by decide) ?_
  refine k_iast (o := 79) (j := 31) C hR ⟨by decide, rfl⟩ rfl (by decide) (dk DX11_init 110 rfl) (fun H locs hR => ?_)
  refine lv_aload_n hx hb (dk DX11_init 111 rfl) rfl (lv_at hl 1 rfl) ?_
  refine gX11_13 (o := 78) (k := 79) C hR ⟨by decide, rfl⟩ rfl (dk DX11_init 112 rfl) ?_
  refine lv_bipush (v := (23 : Int32)) hx hb (dk DX11_init 113 rfl) (by decide) ?_
  refine lv_iconst (v := (2 : Int32)) hx hb (dk DX11_init 114 rfl) (by decide) ?_
  refine lv_iload_n hx hb (dk DX11_init 115 rfl) rfl (lv_at hl 0 rfl) ?_
  refine lv_imul hx hb (dk DX11_init 116 rfl) ?_
  refine k_top (x := (8 : Int32)) (by decide) ?_
  refine lv_iadd hx hb (dk DX11_init 117 rfl) ?_
  refine k_top (x := (31 : Int32)) (by decide) ?_
  refine lv_iconst (v := (1 : Int32)) hx hb (dk DX11_init 118 rfl) (by decide) ?_
  refine lv_iadd hx hb (dk DX11_init 119 rfl) ?_
  refine k_top (x := (32 : Int32)) (by decide) ?_
  refine lv_iconst (v := (2 : Int32)) hx hb (dk DX11_init 120 rfl) (by decide) ?_
  refine k_iast (o := 79) (j := 32) C hR ⟨by decide, rfl⟩ rfl (by decide) (dk DX11_init 121 rfl) (fun H locs hR => ?_)
  refine lv_iinc (v := (5 : Int32)) (lv' := [(1, .int (5 : Int32)), (0, .ref (G.2.1 + 78))]) hx hb (dk DX11_init 122 rfl) hl (k := 0) rfl (by decide) (by decide) rfl (fun ls hl => ?_)
  refine lv_goto (tgt := 183) hx hb (dk DX11_init 123 rfl) (by decide) ?_
  refine lv_iload_n hx hb (dk DX11_init 99 rfl) rfl (lv_at hl 0 rfl) ?_
  refine lv_bipush (v := (16 : Int32)) hx hb (dk DX11_init 100 rfl) (by decide) ?_
  refine lv_icmp_ge (tgt := 221) hx hb (dk DX11_init 101 rfl) (by decide) (fun h => absurd h (by decide)) (fun _ => ?_)
  refine lv_aload_n hx hb (dk DX11_init 102 rfl) rfl (lv_at hl 1 rfl) ?_
  refine gX11_13 (o := 78) (k := 79) C hR ⟨by decide, rfl⟩ rfl (dk DX11_init 103 rfl) ?_
  refine lv_bipush (v := (23 : Int32)) hx hb (dk DX11_init 104 rfl) (by decide) ?_
  refine lv_iconst (v := (2 : Int32)) hx hb (dk DX11_init 105 rfl) (by decide) ?_
  refine lv_iload_n hx hb (dk DX11_init 106 rfl) rfl (lv_at hl 0 rfl) ?_
  refine lv_imul hx hb (dk DX11_init 107 rfl) ?_
  refine k_top (x := (10 : Int32)) (by decide) ?_
  refine lv_iadd hx hb (dk DX11_init 108 rfl) ?_
  refine k_top (x := (33 : Int32)) (by decide) ?_
  refine lv_iconst (v := (3 : Int32)) hx hb (dk DX11_init 109 rfl) (by decide) ?_
  refine k_iast (o := 79) (j := 33) C hR ⟨by decide, rfl⟩ rfl (by decide) (dk DX11_init 110 rfl) (fun H locs hR => ?_)
  refine lv_aload_n hx hb (dk DX11_init 111 rfl) rfl (lv_at hl 1 rfl) ?_
  refine gX11_13 (o := 78) (k := 79) C hR ⟨by decide, rfl⟩ rfl (dk DX11_init 112 rfl) ?_
  refine lv_bipush (v := (23 : Int32)) hx hb (dk DX11_init 113 rfl) (by decide) ?_
  refine lv_iconst (v := (2 : Int32)) hx hb (dk DX11_init 114 rfl) (by decide) ?_
  refine lv_iload_n hx hb (dk DX11_init 115 rfl) rfl (lv_at hl 0 rfl) ?_
  refine lv_imul hx hb (dk DX11_init 116 rfl) ?_
  refine k_top (x := (10 : Int32)) (by decide) ?_
  refine lv_iadd hx hb (dk DX11_init 117 rfl) ?_
  refine k_top (x := (33 : Int32)) (by decide) ?_
  refine lv_iconst (v := (1 : Int32)) hx hb (dk DX11_init 118 rfl) (by decide) ?_
  refine lv_iadd hx hb (dk DX11_init 119 rfl) ?_
  refine k_top (x := (34 : Int32)) (by decide) ?_
  refine lv_iconst (v := (2 : Int32)) hx hb (dk DX11_init 120 rfl) (by decide) ?_
  refine k_iast (o := 79) (j := 34) C hR ⟨by decide, rfl⟩ rfl (by decide) (dk DX11_init 121 rfl) (fun H locs hR => ?_)
  refine lv_iinc (v := (6 : Int32)) (lv' := [(1, .int (6 : Int32)), (0, .ref (G.2.1 + 78))]) hx hb (dk DX11_init 122 rfl) hl (k := 0) rfl (by decide) (by decide) rfl (fun ls hl => ?_)
  refine lv_goto (tgt := 183) hx hb (dk DX11_init 123 rfl) (by decide) ?_
  refine lv_iload_n hx hb (dk DX11_init 99 rfl) rfl (lv_at hl 0 rfl) ?_
  refine lv_bipush (v := (16 : Int32)) hx hb (dk DX11_init 100 rfl) (by decide) ?_
  refine lv_icmp_ge (tgt := 221) hx hb (dk DX11_init 101 rfl) (by decide) (fun h => absurd h (by decide)) (fun _ => ?_)
  refine lv_aload_n hx hb (dk DX11_init 102 rfl) rfl (lv_at hl 1 rfl) ?_
  refine gX11_13 (o := 78) (k := 79) C hR ⟨by decide, rfl⟩ rfl (dk DX11_init 103 rfl) ?_
  refine lv_bipush (v := (23 : Int32)) hx hb (dk DX11_init 104 rfl) (by decide) ?_
  refine lv_iconst (v := (2 : Int32)) hx hb (dk DX11_init 105 rfl) (by decide) ?_
  refine lv_iload_n hx hb (dk DX11_init 106 rfl) rfl (lv_at hl 0 rfl) ?_
  refine lv_imul hx hb (dk DX11_init 107 rfl) ?_
  refine k_top (x := (12 : Int32)) (by decide) ?_
  refine lv_iadd hx hb (dk DX11_init 108 rfl) ?_
  refine k_top (x := (35 : Int32)) (by decide) ?_
  refine lv_iconst (v := (3 : Int32)) hx hb (dk DX11_init 109 rfl) (by decide) ?_
  refine k_iast (o := 79) (j := 35) C hR ⟨by decide, rfl⟩ rfl (by decide) (dk DX11_init 110 rfl) (fun H locs hR => ?_)
  refine lv_aload_n hx hb (dk DX11_init 111 rfl) rfl (lv_at hl 1 rfl) ?_
  refine gX11_13 (o := 78) (k := 79) C hR ⟨by decide, rfl⟩ rfl (dk DX11_init 112 rfl) ?_
  refine lv_bipush (v := (23 : Int32)) hx hb (dk DX11_init 113 rfl) (by decide) ?_
  refine lv_iconst (v := (2 : Int32)) hx hb (dk DX11_init 114 rfl) (by decide) ?_
  refine lv_iload_n hx hb (dk DX11_init 115 rfl) rfl (lv_at hl 0 rfl) ?_
  refine lv_imul hx hb (dk DX11_init 116 rfl) ?_
  refine k_top (x := (12 : Int32)) (by decide) ?_
  refine lv_iadd hx hb (dk DX11_init 117 rfl) ?_
  refine k_top (x := (35 : Int32)) (by decide) ?_
  refine lv_iconst (v := (1 : Int32)) hx hb (dk DX11_init 118 rfl) (by decide) ?_
  refine lv_iadd hx hb (dk DX11_init 119 rfl) ?_
  refine k_top (x := (36 : Int32)) (by decide) ?_
  refine lv_iconst (v := (2 : Int32)) hx hb (dk DX11_init 120 rfl) (by decide) ?_
  refine k_iast (o := 79) (j := 36) C hR ⟨by decide, rfl⟩ rfl (by decide) (dk DX11_init 121 rfl) (fun H locs hR => ?_)
  refine lv_iinc (v := (7 : Int32)) (lv' := [(1, .int (7 : Int32)), (0, .ref (G.2.1 + 78))]) hx hb (dk DX11_init 122 rfl) hl (k := 0) rfl (by decide) (by decide) rfl (fun ls hl => ?_)
  refine lv_goto (tgt := 183) hx hb (dk DX11_init 123 rfl) (by decide) ?_
  refine lv_iload_n hx hb (dk DX11_init 99 rfl) rfl (lv_at hl 0 rfl) ?_
  refine lv_bipush (v := (16 : Int32)) hx hb (dk DX11_init 100 rfl) (by decide) ?_
  refine lv_icmp_ge (tgt := 221) hx hb (dk DX11_init 101 rfl) (by decide) (fun h => absurd h (by decide)) (fun _ => ?_)
  refine lv_aload_n hx hb (dk DX11_init 102 rfl) rfl (lv_at hl 1 rfl) ?_
  refine gX11_13 (o := 78) (k := 79) C hR ⟨by decide, rfl⟩ rfl (dk DX11_init 103 rfl) ?_
  refine lv_bipush (v := (23 : Int32)) hx hb (dk DX11_init 104 rfl) (by decide) ?_
  refine lv_iconst (v := (2 : Int32)) hx hb (dk DX11_init 105 rfl) (by decide) ?_
  refine lv_iload_n hx hb (dk DX11_init 106 rfl) rfl (lv_at hl 0 rfl) ?_
  refine lv_imul hx hb (dk DX11_init 107 rfl) ?_
  refine k_top (x := (14 : Int32)) (by decide) ?_
  refine lv_iadd hx hb (dk DX11_init 108 rfl) ?_
  refine k_top (x := (37 : Int32)) (by decide) ?_
  refine lv_iconst (v := (3 : Int32)) hx hb (dk DX11_init 109 rfl) (by decide) ?_
  refine k_iast (o := 79) (j := 37) C hR ⟨by decide, rfl⟩ rfl (by decide) (dk DX11_init 110 rfl) (fun H locs hR => ?_)
  refine lv_aload_n hx hb (dk DX11_init 111 rfl) rfl (lv_at hl 1 rfl) ?_
  refine gX11_13 (o := 78) (k := 79) C hR ⟨by decide, rfl⟩ rfl (dk DX11_init 112 rfl) ?_
  refine lv_bipush (v := (23 : Int32)) hx hb (dk DX11_init 113 rfl) (by decide) ?_
  refine lv_iconst (v := (2 : Int32)) hx hb (dk DX11_init 114 rfl) (by decide) ?_
  refine lv_iload_n hx hb (dk DX11_init 115 rfl) rfl (lv_at hl 0 rfl) ?_
  refine lv_imul hx hb (dk DX11_init 116 rfl) ?_
  refine k_top (x := (14 : Int32)) (by decide) ?_
  refine lv_iadd hx hb (dk DX11_init 117 rfl) ?_
  refine k_top (x := (37 : Int32)) (by decide) ?_
  refine lv_iconst (v := (1 : Int32)) hx hb (dk DX11_init 118 rfl) (by decide) ?_
  refine lv_iadd hx hb (dk DX11_init 119 rfl) ?_
  refine k_top (x := (38 : Int32)) (by decide) ?_
  refine lv_iconst (v := (2 : Int32)) hx hb (dk DX11_init 120 rfl) (by decide) ?_
  refine k_iast (o := 79) (j := 38) C hR ⟨by decide, rfl⟩ rfl (by decide) (dk DX11_init 121 rfl) (fun H locs hR => ?_)
  refine lv_iinc (v := (8 : Int32)) (lv' := [(1, .int (8 : Int32)), (0, .ref (G.2.1 + 78))]) hx hb (dk DX11_init 122 rfl) hl (k := 0) rfl (by decide) (by decide) rfl (fun ls hl => ?_)
  refine lv_goto (tgt := 183) hx hb (dk DX11_init 123 rfl) (by decide) ?_
  refine lv_iload_n hx hb (dk DX11_init 99 rfl) rfl (lv_at hl 0 rfl) ?_
  refine lv_bipush (v := (16 : Int32)) hx hb (dk DX11_init 100 rfl) (by decide) ?_
  refine lv_icmp_ge (tgt := 221) hx hb (dk DX11_init 101 rfl) (by decide) (fun h => absurd h (by decide)) (fun _ => ?_)
  refine lv_aload_n hx hb (dk DX11_init 102 rfl) rfl (lv_at hl 1 rfl) ?_
  refine gX11_13 (o := 78) (k := 79) C hR ⟨by decide, rfl⟩ rfl (dk DX11_init 103 rfl) ?_
  refine lv_bipush (v := (23 : Int32)) hx hb (dk DX11_init 104 rfl) (by decide) ?_
  refine lv_iconst (v := (2 : Int32)) hx hb (dk DX11_init 105 rfl) (by decide) ?_
  refine lv_iload_n hx hb (dk DX11_init 106 rfl) rfl (lv_at hl 0 rfl) ?_
  refine lv_imul hx hb (dk DX11_init 107 rfl) ?_
  refine k_top (x := (16 : Int32)) (by decide) ?_
  refine lv_iadd hx hb (dk DX11_init 108 rfl) ?_
  refine k_top (x := (39 : Int32)) (by decide) ?_
  refine lv_iconst (v := (3 : Int32)) hx hb (dk DX11_init 109 rfl) (by decide) ?_
  refine k_iast (o := 79) (j := 39) C hR ⟨by decide, rfl⟩ rfl (by decide) (dk DX11_init 110 rfl) (fun H locs hR => ?_)
  refine lv_aload_n hx hb (dk DX11_init 111 rfl) rfl (lv_at hl 1 rfl) ?_
  refine gX11_13 (o := 78) (k := 79) C hR ⟨by decide, rfl⟩ rfl (dk DX11_init 112 rfl) ?_
  refine lv_bipush (v := (23 : Int32)) hx hb (dk DX11_init 113 rfl) (by decide) ?_
  refine lv_iconst (v := (2 : Int32)) hx hb (dk DX11_init 114 rfl) (by decide) ?_
  refine lv_iload_n hx hb (dk DX11_init 115 rfl) rfl (lv_at hl 0 rfl) ?_
  refine lv_imul hx hb (dk DX11_init 116 rfl) ?_
  refine k_top (x := (16 : Int32)) (by decide) ?_
  refine lv_iadd hx hb (dk DX11_init 117 rfl) ?_
  refine k_top (x := (39 : Int32)) (by decide) ?_
  refine lv_iconst (v := (1 : Int32)) hx hb (dk DX11_init 118 rfl) (by decide) ?_
  refine lv_iadd hx hb (dk DX11_init 119 rfl) ?_
  refine k_top (x := (40 : Int32)) (by decide) ?_
  refine lv_iconst (v := (2 : Int32)) hx hb (dk DX11_init 120 rfl) (by decide) ?_
  refine k_iast (o := 79) (j := 40) C hR ⟨by decide, rfl⟩ rfl (by decide) (dk DX11_init 121 rfl) (fun H locs hR => ?_)
  refine lv_iinc (v := (9 : Int32)) (lv' := [(1, .int (9 : Int32)), (0, .ref (G.2.1 + 78))]) hx hb (dk DX11_init 122 rfl) hl (k := 0) rfl (by decide) (by decide) rfl (fun ls hl => ?_)
  refine lv_goto (tgt := 183) hx hb (dk DX11_init 123 rfl) (by decide) ?_
  refine lv_iload_n hx hb (dk DX11_init 99 rfl) rfl (lv_at hl 0 rfl) ?_
  refine lv_bipush (v := (16 : Int32)) hx hb (dk DX11_init 100 rfl) (by decide) ?_
  refine lv_icmp_ge (tgt := 221) hx hb (dk DX11_init 101 rfl) (by decide) (fun h => absurd h (by decide)) (fun _ => ?_)
  refine lv_aload_n hx hb (dk DX11_init 102 rfl) rfl (lv_at hl 1 rfl) ?_
  refine gX11_13 (o := 78) (k := 79) C hR ⟨by decide, rfl⟩ rfl (dk DX11_init 103 rfl) ?_
  refine lv_bipush (v := (23 : Int32)) hx hb (dk DX11_init 104 rfl) (by decide) ?_
  refine lv_iconst (v := (2 : Int32)) hx hb (dk DX11_init 105 rfl) (by decide) ?_
  refine lv_iload_n hx hb (dk DX11_init 106 rfl) rfl (lv_at hl 0 rfl) ?_
  refine lv_imul hx hb (dk DX11_init 107 rfl) ?_
  refine k_top (x := (18 : Int32)) (by decide) ?_
  refine lv_iadd hx hb (dk DX11_init 108 rfl) ?_
  refine k_top (x := (41 : Int32)) (by decide) ?_
  refine lv_iconst (v := (3 : Int32)) hx hb (dk DX11_init 109 rfl) (by decide) ?_
  refine k_iast (o := 79) (j := 41) C hR ⟨by decide, rfl⟩ rfl (by decide) (dk DX11_init 110 rfl) (fun H locs hR => ?_)
  refine lv_aload_n hx hb (dk DX11_init 111 rfl) rfl (lv_at hl 1 rfl) ?_
  refine gX11_13 (o := 78) (k := 79) C hR ⟨by decide, rfl⟩ rfl (dk DX11_init 112 rfl) ?_
  refine lv_bipush (v := (23 : Int32)) hx hb (dk DX11_init 113 rfl) (by decide) ?_
  refine lv_iconst (v := (2 : Int32)) hx hb (dk DX11_init 114 rfl) (by decide) ?_
  refine lv_iload_n hx hb (dk DX11_init 115 rfl) rfl (lv_at hl 0 rfl) ?_
  refine lv_imul hx hb (dk DX11_init 116 rfl) ?_
  refine k_top (x := (18 : Int32)) (by decide) ?_
  refine lv_iadd hx hb (dk DX11_init 117 rfl) ?_
  refine k_top (x := (41 : Int32)) (by decide) ?_
  refine lv_iconst (v := (1 : Int32)) hx hb (dk DX11_init 118 rfl) (by decide) ?_
  refine lv_iadd hx hb (dk DX11_init 119 rfl) ?_
  refine k_top (x := (42 : Int32)) (by decide) ?_
  refine lv_iconst (v := (2 : Int32)) hx hb (dk DX11_init 120 rfl) (by decide) ?_
  refine k_iast (o := 79) (j := 42) C hR ⟨by decide, rfl⟩ rfl (by decide) (dk DX11_init 121 rfl) (fun H locs hR => ?_)
  refine lv_iinc (v := (10 : Int32)) (lv' := [(1, .int (10 : Int32)), (0, .ref (G.2.1 + 78))]) hx hb (dk DX11_init 122 rfl) hl (k := 0) rfl (by decide) (by decide) rfl (fun ls hl => ?_)
  refine lv_goto (tgt := 183) hx hb (dk DX11_init 123 rfl) (by decide) ?_
  refine lv_iload_n hx hb (dk DX11_init 99 rfl) rfl (lv_at hl 0 rfl) ?_
  refine lv_bipush (v := (16 : Int32)) hx hb (dk DX11_init 100 rfl) (by decide) ?_
  refine lv_icmp_ge (tgt := 221) hx hb (dk DX11_init 101 rfl) (by decide) (fun h => absurd h (by decide)) (fun _ => ?_)
  refine lv_aload_n hx hb (dk DX11_init 102 rfl) rfl (lv_at hl 1 rfl) ?_
  refine gX11_13 (o := 78) (k := 79) C hR ⟨by decide, rfl⟩ rfl (dk DX11_init 103 rfl) ?_
  refine lv_bipush (v := (23 : Int32)) hx hb (dk DX11_init 104 rfl) (by decide) ?_
  refine lv_iconst (v := (2 : Int32)) hx hb (dk DX11_init 105 rfl) (by decide) ?_
  refine lv_iload_n hx hb (dk DX11_init 106 rfl) rfl (lv_at hl 0 rfl) ?_
  refine lv_imul hx hb (dk DX11_init 107 rfl) ?_
  refine k_top (x := (20 : Int32)) (by decide) ?_
  refine lv_iadd hx hb (dk DX11_init 108 rfl) ?_
  refine k_top (x := (43 : Int32)) (by decide) ?_
  refine lv_iconst (v := (3 : Int32)) hx hb (dk DX11_init 109 rfl) (by decide) ?_
  refine k_iast (o := 79) (j := 43) C hR ⟨by decide, rfl⟩ rfl (by decide) (dk DX11_init 110 rfl) (fun H locs hR => ?_)
  refine lv_aload_n hx hb (dk DX11_init 111 rfl) rfl (lv_at hl 1 rfl) ?_
  refine gX11_13 (o := 78) (k := 79) C hR ⟨by decide, rfl⟩ rfl (dk DX11_init 112 rfl) ?_
  refine lv_bipush (v := (23 : Int32)) hx hb (dk DX11_init 113 rfl) (by decide) ?_
  refine lv_iconst (v := (2 : Int32)) hx hb (dk DX11_init 114 rfl) (by decide) ?_
  refine lv_iload_n hx hb (dk DX11_init 115 rfl) rfl (lv_at hl 0 rfl) ?_
  refine lv_imul hx hb (dk DX11_init 116 rfl) ?_
  refine k_top (x := (20 : Int32)) (by decide) ?_
  refine lv_iadd hx hb (dk DX11_init 117 rfl) ?_
  refine k_top (x := (43 : Int32)) (by decide) ?_
  refine lv_iconst (v := (1 : Int32)) hx hb (dk DX11_init 118 rfl) (by decide) ?_
  refine lv_iadd hx hb (dk DX11_init 119 rfl) ?_
  refine k_top (x := (44 : Int32)) (by decide) ?_
  refine lv_iconst (v := (2 : Int32)) hx hb (dk DX11_init 120 rfl) (by decide) ?_
  refine k_iast (o := 79) (j := 44) C hR ⟨by decide, rfl⟩ rfl (by decide) (dk DX11_init 121 rfl) (fun H locs hR => ?_)
  refine lv_iinc (v := (11 : Int32)) (lv' := [(1, .int (11 : Int32)), (0, .ref (G.2.1 + 78))]) hx hb (dk DX11_init 122 rfl) hl (k := 0) rfl (by decide) (by decide) rfl (fun ls hl => ?_)
  refine lv_goto (tgt := 183) hx hb (dk DX11_init 123 rfl) (by decide) ?_
  refine lv_iload_n hx hb (dk DX11_init 99 rfl) rfl (lv_at hl 0 rfl) ?_
  refine lv_bipush (v := (16 : Int32)) hx hb (dk DX11_init 100 rfl) (by decide) ?_
  refine lv_icmp_ge (tgt := 221) hx hb (dk DX11_init 101 rfl) (by decide) (fun h => absurd h (by decide)) (fun _ => ?_)
  refine lv_aload_n hx hb (dk DX11_init 102 rfl) rfl (lv_at hl 1 rfl) ?_
  refine gX11_13 (o := 78) (k := 79) C hR ⟨by decide, rfl⟩ rfl (dk DX11_init 103 rfl) ?_
  refine lv_bipush (v := (23 : Int32)) hx hb (dk DX11_init 104 rfl) (by decide) ?_
  refine lv_iconst (v := (2 : Int32)) hx hb (dk DX11_init 105 rfl) (by decide) ?_
  refine lv_iload_n hx hb (dk DX11_init 106 rfl) rfl (lv_at hl 0 rfl) ?_
  refine lv_imul hx hb (dk DX11_init 107 rfl) ?_
  refine k_top (x := (22 : Int32)) (by decide) ?_
  refine lv_iadd hx hb (dk DX11_init 108 rfl) ?_
  refine k_top (x := (45 : Int32)) (by decide) ?_
  refine lv_iconst (v := (3 : Int32)) hx hb (dk DX11_init 109 rfl) (by decide) ?_
  refine k_iast (o := 79) (j := 45) C hR ⟨by decide, rfl⟩ rfl (by decide) (dk DX11_init 110 rfl) (fun H locs hR => ?_)
  refine lv_aload_n hx hb (dk DX11_init 111 rfl) rfl (lv_at hl 1 rfl) ?_
  refine gX11_13 (o := 78) (k := 79) C hR ⟨by decide, rfl⟩ rfl (dk DX11_init 112 rfl) ?_
  refine lv_bipush (v := (23 : Int32)) hx hb (dk DX11_init 113 rfl) (by decide) ?_
  refine lv_iconst (v := (2 : Int32)) hx hb (dk DX11_init 114 rfl) (by decide) ?_
  refine lv_iload_n hx hb (dk DX11_init 115 rfl) rfl (lv_at hl 0 rfl) ?_
  refine lv_imul hx hb (dk DX11_init 116 rfl) ?_
  refine k_top (x := (22 : Int32)) (by decide) ?_
  refine lv_iadd hx hb (dk DX11_init 117 rfl) ?_
  refine k_top (x := (45 : Int32)) (by decide) ?_
  refine lv_iconst (v := (1 : Int32)) hx hb (dk DX11_init 118 rfl) (by decide) ?_
  refine lv_iadd hx hb (dk DX11_init 119 rfl) ?_
  refine k_top (x := (46 : Int32)) (by decide) ?_
  refine lv_iconst (v := (2 : Int32)) hx hb (dk DX11_init 120 rfl) (by decide) ?_
  refine k_iast (o := 79) (j := 46) C hR ⟨by decide, rfl⟩ rfl (by decide) (dk DX11_init 121 rfl) (fun H locs hR => ?_)
  refine lv_iinc (v := (12 : Int32)) (lv' := [(1, .int (12 : Int32)), (0, .ref (G.2.1 + 78))]) hx hb (dk DX11_init 122 rfl) hl (k := 0) rfl (by decide) (by decide) rfl (fun ls hl => ?_)
  refine lv_goto (tgt := 183) hx hb (dk DX11_init 123 rfl) (by decide) ?_
  refine lv_iload_n hx hb (dk DX11_init 99 rfl) rfl (lv_at hl 0 rfl) ?_
  refine lv_bipush (v := (16 : Int32)) hx hb (dk DX11_init 100 rfl) (by decide) ?_
  refine lv_icmp_ge (tgt := 221) hx hb (dk DX11_init 101 rfl) (by decide) (fun h => absurd h (by decide)) (fun _ => ?_)
  refine lv_aload_n hx hb (dk DX11_init 102 rfl) rfl (lv_at hl 1 rfl) ?_
  refine gX11_13 (o := 78) (k := 79) C hR ⟨by decide, rfl⟩ rfl (dk DX11_init 103 rfl) ?_
  refine lv_bipush (v := (23 : Int32)) hx hb (dk DX11_init 104 rfl) (by decide) ?_
  refine lv_iconst (v := (2 : Int32)) hx hb (dk DX11_init 105 rfl) (by decide) ?_
  refine lv_iload_n hx hb (dk DX11_init 106 rfl) rfl (lv_at hl 0 rfl) ?_
  refine lv_imul hx hb (dk DX11_init 107 rfl) ?_
  refine k_top (x := (24 : Int32)) (by decide) ?_
  refine lv_iadd hx hb (dk DX11_init 108 rfl) ?_
  refine k_top (x := (47 : Int32)) (by decide) ?_
  refine lv_iconst (v := (3 : Int32)) hx hb (dk DX11_init 109 rfl) (by decide) ?_
  refine k_iast (o := 79) (j := 47) C hR ⟨by decide, rfl⟩ rfl (by decide) (dk DX11_init 110 rfl) (fun H locs hR => ?_)
  refine lv_aload_n hx hb (dk DX11_init 111 rfl) rfl (lv_at hl 1 rfl) ?_
  refine gX11_13 (o := 78) (k := 79) C hR ⟨by decide, rfl⟩ rfl (dk DX11_init 112 rfl) ?_
  refine lv_bipush (v := (23 : Int32)) hx hb (dk DX11_init 113 rfl) (by decide) ?_
  refine lv_iconst (v := (2 : Int32)) hx hb (dk DX11_init 114 rfl) (by decide) ?_
  refine lv_iload_n hx hb (dk DX11_init 115 rfl) rfl (lv_at hl 0 rfl) ?_
  refine lv_imul hx hb (dk DX11_init 116 rfl) ?_
  refine k_top (x := (24 : Int32)) (by decide) ?_
  refine lv_iadd hx hb (dk DX11_init 117 rfl) ?_
  refine k_top (x := (47 : Int32)) (by decide) ?_
  refine lv_iconst (v := (1 : Int32)) hx hb (dk DX11_init 118 rfl) (by decide) ?_
  refine lv_iadd hx hb (dk DX11_init 119 rfl) ?_
  refine k_top (x := (48 : Int32)) (by decide) ?_
  refine lv_iconst (v := (2 : Int32)) hx hb (dk DX11_init 120 rfl) (by decide) ?_
  refine k_iast (o := 79) (j := 48) C hR ⟨by decide, rfl⟩ rfl (by decide) (dk DX11_init 121 rfl) (fun H locs hR => ?_)
  refine lv_iinc (v := (13 : Int32)) (lv' := [(1, .int (13 : Int32)), (0, .ref (G.2.1 + 78))]) hx hb (dk DX11_init 122 rfl) hl (k := 0) rfl (by decide) (by decide) rfl (fun ls hl => ?_)
  refine lv_goto (tgt := 183) hx hb (dk DX11_init 123 rfl) (by decide) ?_
  refine lv_iload_n hx hb (dk DX11_init 99 rfl) rfl (lv_at hl 0 rfl) ?_
  refine lv_bipush (v := (16 : Int32)) hx hb (dk DX11_init 100 rfl) (by decide) ?_
  refine lv_icmp_ge (tgt := 221) hx hb (dk DX11_init 101 rfl) (by decide) (fun h => absurd h (by decide)) (fun _ => ?_)
  refine lv_aload_n hx hb (dk DX11_init 102 rfl) rfl (lv_at hl 1 rfl) ?_
  refine gX11_13 (o := 78) (k := 79) C hR ⟨by decide, rfl⟩ rfl (dk DX11_init 103 rfl) ?_
  refine lv_bipush (v := (23 : Int32)) hx hb (dk DX11_init 104 rfl) (by decide) ?_
  refine lv_iconst (v := (2 : Int32)) hx hb (dk DX11_init 105 rfl) (by decide) ?_
  refine lv_iload_n hx hb (dk DX11_init 106 rfl) rfl (lv_at hl 0 rfl) ?_
  refine lv_imul hx hb (dk DX11_init 107 rfl) ?_
  refine k_top (x := (26 : Int32)) (by decide) ?_
  refine lv_iadd hx hb (dk DX11_init 108 rfl) ?_
  refine k_top (x := (49 : Int32)) (by decide) ?_
  refine lv_iconst (v := (3 : Int32)) hx hb (dk DX11_init 109 rfl) (by decide) ?_
  refine k_iast (o := 79) (j := 49) C hR ⟨by decide, rfl⟩ rfl (by decide) (dk DX11_init 110 rfl) (fun H locs hR => ?_)
  refine lv_aload_n hx hb (dk DX11_init 111 rfl) rfl (lv_at hl 1 rfl) ?_
  refine gX11_13 (o := 78) (k := 79) C hR ⟨by decide, rfl⟩ rfl (dk DX11_init 112 rfl) ?_
  refine lv_bipush (v := (23 : Int32)) hx hb (dk DX11_init 113 rfl) (by decide) ?_
  refine lv_iconst (v := (2 : Int32)) hx hb (dk DX11_init 114 rfl) (by decide) ?_
  refine lv_iload_n hx hb (dk DX11_init 115 rfl) rfl (lv_at hl 0 rfl) ?_
  refine lv_imul hx hb (dk DX11_init 116 rfl) ?_
  refine k_top (x := (26 : Int32)) (by decide) ?_
  refine lv_iadd hx hb (dk DX11_init 117 rfl) ?_
  refine k_top (x := (49 : Int32)) (by decide) ?_
  refine lv_iconst (v := (1 : Int32)) hx hb (dk DX11_init 118 rfl) (by decide) ?_
  refine lv_iadd hx hb (dk DX11_init 119 rfl) ?_
  refine k_top (x := (50 : Int32)) (by decide) ?_
  refine lv_iconst (v := (2 : Int32)) hx hb (dk DX11_init 120 rfl) (by decide) ?_
  refine k_iast (o := 79) (j := 50) C hR ⟨by decide, rfl⟩ rfl (by decide) (dk DX11_init 121 rfl) (fun H locs hR => ?_)
  refine lv_iinc (v := (14 : Int32)) (lv' := [(1, .int (14 : Int32)), (0, .ref (G.2.1 + 78))]) hx hb (dk DX11_init 122 rfl) hl (k := 0) rfl (by decide) (by decide) rfl (fun ls hl => ?_)
  refine lv_goto (tgt := 183) hx hb (dk DX11_init 123 rfl) (by decide) ?_
  refine lv_iload_n hx hb (dk DX11_init 99 rfl) rfl (lv_at hl 0 rfl) ?_
  refine lv_bipush (v := (16 : Int32)) hx hb (dk DX11_init 100 rfl) (by decide) ?_
  refine lv_icmp_ge (tgt := 221) hx hb (dk DX11_init 101 rfl) (by decide) (fun h => absurd h (by decide)) (fun _ => ?_)
  refine lv_aload_n hx hb (dk DX11_init 102 rfl) rfl (lv_at hl 1 rfl) ?_
  refine gX11_13 (o := 78) (k := 79) C hR ⟨by decide, rfl⟩ rfl (dk DX11_init 103 rfl) ?_
  refine lv_bipush (v := (23 : Int32)) hx hb (dk DX11_init 104 rfl) (by decide) ?_
  refine lv_iconst (v := (2 : Int32)) hx hb (dk DX11_init 105 rfl) (by decide) ?_
  refine lv_iload_n hx hb (dk DX11_init 106 rfl) rfl (lv_at hl 0 rfl) ?_
  refine lv_imul hx hb (dk DX11_init 107 rfl) ?_
  refine k_top (x := (28 : Int32)) (by decide) ?_
  refine lv_iadd hx hb (dk DX11_init 108 rfl) ?_
  refine k_top (x := (51 : Int32)) (by decide) ?_
  refine lv_iconst (v := (3 : Int32)) hx hb (dk DX11_init 109 rfl) (by decide) ?_
  refine k_iast (o := 79) (j := 51) C hR ⟨by decide, rfl⟩ rfl (by decide) (dk DX11_init 110 rfl) (fun H locs hR => ?_)
  refine lv_aload_n hx hb (dk DX11_init 111 rfl) rfl (lv_at hl 1 rfl) ?_
  refine gX11_13 (o := 78) (k := 79) C hR ⟨by decide, rfl⟩ rfl (dk DX11_init 112 rfl) ?_
  refine lv_bipush (v := (23 : Int32)) hx hb (dk DX11_init 113 rfl) (by decide) ?_
  refine lv_iconst (v := (2 : Int32)) hx hb (dk DX11_init 114 rfl) (by decide) ?_
  refine lv_iload_n hx hb (dk DX11_init 115 rfl) rfl (lv_at hl 0 rfl) ?_
  refine lv_imul hx hb (dk DX11_init 116 rfl) ?_
  refine k_top (x := (28 : Int32)) (by decide) ?_
  refine lv_iadd hx hb (dk DX11_init 117 rfl) ?_
  refine k_top (x := (51 : Int32)) (by decide) ?_
  refine lv_iconst (v := (1 : Int32)) hx hb (dk DX11_init 118 rfl) (by decide) ?_
  refine lv_iadd hx hb (dk DX11_init 119 rfl) ?_
  refine k_top (x := (52 : Int32)) (by decide) ?_
  refine lv_iconst (v := (2 : Int32)) hx hb (dk DX11_init 120 rfl) (by decide) ?_
  refine k_iast (o := 79) (j := 52) C hR ⟨by decide, rfl⟩ rfl (by decide) (dk DX11_init 121 rfl) (fun H locs hR => ?_)
  refine lv_iinc (v := (15 : Int32)) (lv' := [(1, .int (15 : Int32)), (0, .ref (G.2.1 + 78))]) hx hb (dk DX11_init 122 rfl) hl (k := 0) rfl (by decide) (by decide) rfl (fun ls hl => ?_)
  refine lv_goto (tgt := 183) hx hb (dk DX11_init 123 rfl) (by decide) ?_
  refine lv_iload_n hx hb (dk DX11_init 99 rfl) rfl (lv_at hl 0 rfl) ?_
  refine lv_bipush (v := (16 : Int32)) hx hb (dk DX11_init 100 rfl) (by decide) ?_
  refine lv_icmp_ge (tgt := 221) hx hb (dk DX11_init 101 rfl) (by decide) (fun h => absurd h (by decide)) (fun _ => ?_)
  refine lv_aload_n hx hb (dk DX11_init 102 rfl) rfl (lv_at hl 1 rfl) ?_
  refine gX11_13 (o := 78) (k := 79) C hR ⟨by decide, rfl⟩ rfl (dk DX11_init 103 rfl) ?_
  refine lv_bipush (v := (23 : Int32)) hx hb (dk DX11_init 104 rfl) (by decide) ?_
  refine lv_iconst (v := (2 : Int32)) hx hb (dk DX11_init 105 rfl) (by decide) ?_
  refine lv_iload_n hx hb (dk DX11_init 106 rfl) rfl (lv_at hl 0 rfl) ?_
  refine lv_imul hx hb (dk DX11_init 107 rfl) ?_
  refine k_top (x := (30 : Int32)) (by decide) ?_
  refine lv_iadd hx hb (dk DX11_init 108 rfl) ?_
  refine k_top (x := (53 : Int32)) (by decide) ?_
  refine lv_iconst (v := (3 : Int32)) hx hb (dk DX11_init 109 rfl) (by decide) ?_
  refine k_iast (o := 79) (j := 53) C hR ⟨by decide, rfl⟩ rfl (by decide) (dk DX11_init 110 rfl) (fun H locs hR => ?_)
  refine lv_aload_n hx hb (dk DX11_init 111 rfl) rfl (lv_at hl 1 rfl) ?_
  refine gX11_13 (o := 78) (k := 79) C hR ⟨by decide, rfl⟩ rfl (dk DX11_init 112 rfl) ?_
  refine lv_bipush (v := (23 : Int32)) hx hb (dk DX11_init 113 rfl) (by decide) ?_
  refine lv_iconst (v := (2 : Int32)) hx hb (dk DX11_init 114 rfl) (by decide) ?_
  refine lv_iload_n hx hb (dk DX11_init 115 rfl) rfl (lv_at hl 0 rfl) ?_
  refine lv_imul hx hb (dk DX11_init 116 rfl) ?_
  refine k_top (x := (30 : Int32)) (by decide) ?_
  refine lv_iadd hx hb (dk DX11_init 117 rfl) ?_
  refine k_top (x := (53 : Int32)) (by decide) ?_
  refine lv_iconst (v := (1 : Int32)) hx hb (dk DX11_init 118 rfl) (by decide) ?_
  refine lv_iadd hx hb (dk DX11_init 119 rfl) ?_
  refine k_top (x := (54 : Int32)) (by decide) ?_
  refine lv_iconst (v := (2 : Int32)) hx hb (dk DX11_init 120 rfl) (by decide) ?_
  refine k_iast (o := 79) (j := 54) C hR ⟨by decide, rfl⟩ rfl (by decide) (dk DX11_init 121 rfl) (fun H locs hR => ?_)
  refine lv_iinc (v := (16 : Int32)) (lv' := [(1, .int (16 : Int32)), (0, .ref (G.2.1 + 78))]) hx hb (dk DX11_init 122 rfl) hl (k := 0) rfl (by decide) (by decide) rfl (fun ls hl => ?_)
  refine lv_goto (tgt := 183) hx hb (dk DX11_init 123 rfl) (by decide) ?_
  refine lv_iload_n hx hb (dk DX11_init 99 rfl) rfl (lv_at hl 0 rfl) ?_
  refine lv_bipush (v := (16 : Int32)) hx hb (dk DX11_init 100 rfl) (by decide) ?_
  refine lv_icmp_ge (tgt := 221) hx hb (dk DX11_init 101 rfl) (by decide) (fun _ => ?_) (fun h => absurd (by decide) h)
  exact k_ret C hrt hR (dk DX11_init 124 rfl)
