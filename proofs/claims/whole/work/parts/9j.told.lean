section TOLD
/-- kinds, as the class numbers them and as the reference does -/
def kdZ (i : Int) (fo : Bool) : Int := if fo = true ∧ 2 ≤ i then i + 2 else i
def jdZ (i : Int) (fo : Bool) : Int := if i < 2 then i else if i = 2 then (if fo = true then 3 else 2) else (if fo = true then 5 else 4)
theorem kdZ_eq {i : Int} {fo : Bool} (i0 : 0 ≤ i) (i3 : i ≤ 3) : mu (jdZ i fo) = kdZ i fo ∧ 0 ≤ jdZ i fo ∧ jdZ i fo ≤ 5 ∧ 0 ≤ kdZ i fo ∧ kdZ i fo ≤ 5 := by
  rcases (show i = 0 ∨ i = 1 ∨ i = 2 ∨ i = 3 by omega) with rfl | rfl | rfl | rfl <;> cases fo <;> decide
theorem TkindOf_eq {i : Int} {fo : Bool} {m : Mem} (i0 : 0 ≤ i) (i3 : i ≤ 3) : F_Od_kindOf (iI i) fo m = some (iI (kdZ i fo), m) := by
  unfold F_Od_kindOf kdZ
  rcases (show i = 0 ∨ i = 1 ∨ i = 2 ∨ i = 3 by omega) with rfl | rfl | rfl | rfl <;> cases fo <;> rfl
theorem MkindOf_eq {i : Int} {fo : Bool} {m : Mem} (i0 : 0 ≤ i) (i3 : i ≤ 3) : F_M_kindOf (iI i) fo m = some (iI (jdZ i fo), m) := by
  unfold F_M_kindOf jdZ
  rcases (show i = 0 ∨ i = 1 ∨ i = 2 ∨ i = 3 by omega) with rfl | rfl | rfl | rfl <;> cases fo <;> rfl
/-- told states: none, wrong, or right -/
def stOK (n p i l o : Int) : Bool := decide ((0 ≤ p ∧ p ≤ n) ∧ (0 ≤ i ∧ i ≤ 3) ∧ (-81 ≤ l ∧ l ≤ 81) ∧ 0 ≤ o ∧ o ≤ 9)
theorem takes_ok {p j o l : Int} {m : Mem} {v : Int × Int} (p0 : 0 ≤ p) (p9 : p ≤ 9) (j0 : 0 ≤ j) (j5 : j ≤ 5) (o0 : 0 ≤ o) (o1 : o ≤ 10) (l0 : -162 ≤ l) (l1 : l ≤ 162) (h1 : gI m 86 (cx p j o l) = iI v.1) (h2 : gI m 87 (cx p j o l) = iI v.2) : Ok (F_M_takes (iI p) (iI j) (iI o) (iI l) m) (fun _ m' => GW m' v ∧ Fr [] [(78, 23), (78, 24)] m m') := by
  have hc := fun m => cell_eq (m := m) (q := p) (j := j) (o := o) (l := l) p0 p9 j0 j5 o0 o1 l0 l1
  have hx := cx_lt (q := p) (j := j) (o := o) (l := l) j0 j5 o0 o1 l0 l1
  unfold F_M_takes
  rw [bnd_some (hc m), ckB_t (iI_inb (by omega) (by omega) (by omega)), lt_def, lt_def, bnd_some (hc _), ckB_t (iI_inb (by omega) (by omega) (by omega)), lt_def, lt_def, iI_idx (by omega) (by omega), Int.toNat_natCast]
  exact ok_some ⟨⟨h1, h2⟩, Fr_sI rfl (Fr_sI rfl Fr_rf (by simp)) (by simp)⟩
/-- the reference: is the other choice made in a told state; cells behind stand -/
theorem McoS_ok {law : Option (List (Int × List Int))} {P : OP} {mg tx bc f dw : Int} {bl : Bool} {wd : Int} {m0 m : Mem} (hB : MB law P mg tx bc f dw bl wd m0) {p j o l more ld : Int} (hmo : MO P more) (h : LaSt law P f m0 p p ld more m) (p0 : 0 ≤ p) (pn : p < P.n) (j0 : 0 ≤ j) (j5 : j ≤ 5) (o0 : 0 ≤ o) (o1 : o ≤ 10) (l0 : -ld ≤ l) (l1 : l ≤ ld) (hld : ld + 9 ≤ 162) : Ok (F_M_isChosen (iI p) (iI j) (iI o) (iI l) m) (fun b m' => b = cho P p (mu j) o l ∧ LaSt law P f m0 p p ld more m' ∧ Fr [] [(78, 23), (78, 24)] m m') := by
  have n9 := hB.gr.n9
  have hm0 := hmo.1
  have hm9 := hmo.2.1
  obtain ⟨q1, q2, q3⟩ := h
  obtain ⟨r, hr⟩ : ∃ r : Nat, r = (P.n - (p + 1)).toNat := ⟨_, rfl⟩
  have hr' : P.n - (p + 1) = (r : Int) := by omega
  have hlv := q2 pn
  have hy : 0 < r → LY P m (p + 1) r (ld + more) := by
    intro hr0
    have := q3 (p + 1) (Or.inr rfl) (by omega)
    rw [← hr, show more * (p + 1 - p) = more by rw [show p + 1 - p = 1 by omega, Int.mul_one]] at this
    exact this
  have hyj : LYj P m p (r + 1) ld (j + 1) := by
    intro j' o' l' a b c d e g i
    have := q3 p (Or.inl rfl) pn
    rw [show (P.n - p).toNat = r + 1 by omega, show more * (p - p) = 0 by rw [Int.sub_self, Int.mul_zero], Int.add_zero] at this
    exact this j' o' l' b c d e g i
  unfold F_M_isChosen
  refine ok_bnd (ok_of (goesOn_ok hB q1 false hlv p0 hr' j0 j5 o0 o1 hy (by omega) (by omega) hmo (by omega)) (fun _ m1 hv => ?_))
  obtain ⟨g1, s1, f1⟩ := hv
  have hso : vOK (ses P (four r) (V P r) p (mu j) (oo o) l false) (4 * four r) := ses_ok (by have := four_pos r; omega) (V_ok r)
  refine ok_bnd (ok_of (chooses_ok hB s1 (hlv.fr f1) p0 hr' j0 j5 o0 o1 (fun q => (hy q).fr f1) (hyj.fr f1) l0 l1 (Int.le_refl _) hmo (by omega) g1 hso) (fun b m2 hv => ok_some ⟨?_, ?_, Fr_tr f1 hv.2.2 (by simp) (by simp)⟩))
  · rw [hv.1]
    unfold cho
    rw [← hr]
    simp only [pn, true_and]
  · have f2 := Fr_tr f1 hv.2.2 (by simp) (by simp)
    exact ⟨q1.tr f2, fun q => (q2 q).fr f2, fun q a b => (q3 q a b).fr f2⟩
def cd12 : Nat → Int := fun e => if e = 2 then 1 else if e = 1 then 2 else if e = 4 then 3 else 0
def AnsZ (codes : Nat → Int) (rT : Nat ⊕ Bool) (rM : Bool) (th : Int32) : Prop := match rT with
  | .inl e => 0 < codes e ∧ th = iI (codes e)
  | .inr v => th = iI 0 ∧ v = rM
def AnsL (codes : Nat → Int) (rT : Nat ⊕ Int64) (rM : Int64) (th : Int32) : Prop := match rT with
  | .inl e => 0 < codes e ∧ th = iI (codes e)
  | .inr v => th = iI 0 ∧ v = rM
def BothZ (B : Nat) (cd : Nat → Int) (T : Mem → Option ((Nat ⊕ Bool) × Mem)) (M : Mem → Option (Bool × Mem)) (m : Mem) : Prop := Ok (T m) (fun rT m1 => Ok (M m1) (fun rM m2 => AnsZ cd rT rM (gI m2 78 0) ∧ Inv B m2))
def BothL (B : Nat) (cd : Nat → Int) (T : Mem → Option ((Nat ⊕ Int64) × Mem)) (M : Mem → Option (Int64 × Mem)) (m : Mem) : Prop := Ok (T m) (fun rT m1 => Ok (M m1) (fun rM m2 => AnsL cd rT rM (gI m2 78 0) ∧ Inv B m2))
theorem ansZ_l {cd : Nat → Int} {e : Nat} {rM : Bool} {m : Mem} {v : Int32} (h : 0 < cd e) (hv : v = iI (cd e)) : AnsZ cd (.inl e) rM (gI (sI m 78 0 v) 78 0) := by
  subst hv
  exact ⟨h, rfl⟩
theorem ansL_l {cd : Nat → Int} {e : Nat} {rM : Int64} {m : Mem} {v : Int32} (h : 0 < cd e) (hv : v = iI (cd e)) : AnsL cd (.inl e) rM (gI (sI m 78 0 v) 78 0) := by
  subst hv
  exact ⟨h, rfl⟩
/-- more marks may be spent -/
theorem IV.up {B B' : Nat} {law : Option (List (Int × List Int))} {n mg wd tx bc : Int} {t : Mt} {m : Mem} (h : IV B law n mg wd tx bc t m) (hb : B ≤ B') : IV B' law n mg wd tx bc t m := by
  refine IV.mk ⟨h.tp, h.fa, h.bli, h.im, h.gr, h.lv, h.cm, h.wm, h.mo, h.pa, ?_⟩
  obtain ⟨a, b, c, d, e⟩ := h.od
  exact ⟨by omega, b, c, d, e⟩
theorem Inv.up {B B' : Nat} {m : Mem} (h : Inv B m) (hb : B ≤ B') : Inv B' m := by
  obtain ⟨law, n, mg, wd, tx, bc, t, h⟩ := h
  exact ⟨law, n, mg, wd, tx, bc, t, h.up hb⟩
theorem enforces_op {B : Nat} {law : Option (List (Int × List Int))} {n mg wd tx bc : Int} {t : Mt} {m : Mem} (h : IV B law n mg wd tx bc t m) (hB6 : B ≤ 1000000) (a b : Int32) : BothZ (B + 1) cd12 (F_T_enforces a b) (F_M_enforces a b) m := by
  obtain ⟨p, rfl, p1, p2⟩ := iI_ex a
  obtain ⟨l, rfl, l1, l2⟩ := iI_ex b
  have k_cn := h.gr.cn
  have k_wn := h.gr.wn
  have k_n1 := h.gr.n1
  have k_n9 := h.gr.n9
  unfold BothZ
  by_cases hr : (0 ≤ p ∧ p ≤ n) ∧ -81 ≤ l ∧ l ≤ 81
  · obtain ⟨m1, mk, e1, hB, hO, hI, f1⟩ := h.ready hB6 (f := 0) (dw := wd) false (by omega) (by omega) h.gr.dw0 h.gr.dw9
    have e1' : F_Od_ready (0 : Int32) (gI m 3 5) false m = some ((), m1) := by rw [h.gr.cdw]; exact e1
    obtain ⟨b2, m2, e2, rfl, o2⟩ := Tcho_ok hB hO (p := p) (k := 2) (o := 10) (l := l) hr.1.1 (by rw [opOf_n]; exact hr.1.2) (by omega) (by omega) (by omega) (by omega) (by omega) (by omega)
    have iv2 := hI m2 o2
    have hw2 : gI m2 79 = gI m 79 := (Fr_row o2.1.fr rfl rfl).trans (Fr_row f1 rfl rfl)
    have iv2' := iv2.thr (thr_s (v := 0))
    have k_mg := iv2.gr.wmg
    have k_mg0 := h.gr.mg0
    have k_mg9 := h.gr.mg9
    have k_wn2 := iv2.gr.wn
    have hsg : sg 2 l = l := rfl
    by_cases hg : p < n ∧ mg ≤ l
    · obtain ⟨m0, more, hMB, hmo, hcf⟩ := countsFrom_ok iv2' (p := p) (l := l) hr.1.1 hr.1.2 hr.2.1 hr.2.2 (w := gI m 79) (by rw [← hw2]; rfl)
      obtain ⟨_, m3, e3, la3, f3⟩ := hcf
      obtain ⟨b4, m4, e4, rfl, la4, f4⟩ := McoS_ok hMB hmo la3 hr.1.1 (by rw [opOf_n]; exact hg.1) (j := 2) (o := 10) (l := l) (by omega) (by omega) (by omega) (by omega) (by split <;> omega) (by split <;> omega) (by split <;> omega)
      have iv3 := Mscr iv2' (Fr_wk f3 (by simp) (by simp))
      have iv4 := Mscr iv3 (Fr_wk f4 (by simp) (by simp))
      have t4 : gI m4 78 0 = iI 0 := by rw [f4.gI (by simp) (by simp), f3.gI (by simp) (by simp)]; rfl
      have e2' : F_Od_chooses (iI p) (2 : Int32) (10 : Int32) (iI l) m1 = some (cho (opOf (gI m 79) law n mg 0 wd false) p 2 10 (sg 2 l), m2) := e2
      have e4' : F_M_isChosen (iI p) (2 : Int32) (10 : Int32) (iI l) m3 = some (cho (opOf (gI m 79) law n mg 0 wd false) p (mu 2) 10 l, m4) := e4
      repeat' (first
        | (with_reducible refine ok_ck ?_ ?_; focus (simp (disch := omega) only [↓lt_def, ↓reduceIte, ckB_true, bnd_e, Int.reduceAdd, Int.reduceSub, Int.reduceMul, Int.reduceNeg, Int.reduceToNat, Bool.false_eq_true, eq_self, not_false_eq_true, not_true_eq_false, Int.toNat_natCast, lt0, lt1, lt2, lt3, lt4, lt5, lt6, lt7, lt8, lt9, lt10, lt11, lt12, lt13, lt14, lt15, lt16, lt17, lt18, lt19, lt20, lt21, lt22, lt23, lt24, lt25, lt26, lt27, lt28, lt29, lt30, lt31, lt32, lt40, lt41, lt43, lt48, lt55, lt57, lt59, lt60, lt62, lt63, lt64, lt70, lt72, lt81, lt97, lt99, lt100, lt122, lt162, lt180, lt235, lt255, lt298, lt299, lt325, lt335, lt400, lt837, lt999, lt1000, lt1001, lt1002, lt1003, lt1004, lt1005, lt1006, lt1007, lt1008, lt1100, lt1101, lt1102, lt1103, lt1104, lt1105, lt1135, lt1136, lt1172, lt2000, lt3278, lt3575, lt10000, lt12345, lt21450, lt32767, lt193050, lt1103515245, ltm162, ltm99, ltm81, ltm8, ltm1, iI_add, iI_sub, iI_mul, iI_neg, iI_divn, iI_lt_t, iI_lt_f, iI_le_t, iI_le_f, iI_eq_t, iI_eq_f, iI_lt, iI_le, iI_eq, iI_idx, iI_inb, gI_sI, gL_sL, gZ_sZ, gI_sL, gI_sZ, gL_sI, gL_sZ, gZ_sI, gZ_sL, Nat.reduceEqDiff, false_and, and_false, and_true, true_and, and_self, k_cn, k_wn, k_wn2, k_mg]; done))
        | (with_reducible refine ok_bnd_e (e1') ?_)
        | (with_reducible refine ok_bnd_e (e2') ?_)
        | (with_reducible refine ok_bnd_e (e3) ?_)
        | (with_reducible refine ok_bnd_e (e4') ?_)
        | (with_reducible refine ok_bnd ?_)
        | (with_reducible refine ok_bndX ?_)
        | (with_reducible refine ok_lt ?_)
        | (with_reducible refine ok_t ?_ ?_; focus (simp (disch := omega) only [↓lt_def, ↓reduceIte, ckB_true, bnd_e, Int.reduceAdd, Int.reduceSub, Int.reduceMul, Int.reduceNeg, Int.reduceToNat, Bool.false_eq_true, eq_self, not_false_eq_true, not_true_eq_false, Int.toNat_natCast, lt0, lt1, lt2, lt3, lt4, lt5, lt6, lt7, lt8, lt9, lt10, lt11, lt12, lt13, lt14, lt15, lt16, lt17, lt18, lt19, lt20, lt21, lt22, lt23, lt24, lt25, lt26, lt27, lt28, lt29, lt30, lt31, lt32, lt40, lt41, lt43, lt48, lt55, lt57, lt59, lt60, lt62, lt63, lt64, lt70, lt72, lt81, lt97, lt99, lt100, lt122, lt162, lt180, lt235, lt255, lt298, lt299, lt325, lt335, lt400, lt837, lt999, lt1000, lt1001, lt1002, lt1003, lt1004, lt1005, lt1006, lt1007, lt1008, lt1100, lt1101, lt1102, lt1103, lt1104, lt1105, lt1135, lt1136, lt1172, lt2000, lt3278, lt3575, lt10000, lt12345, lt21450, lt32767, lt193050, lt1103515245, ltm162, ltm99, ltm81, ltm8, ltm1, iI_add, iI_sub, iI_mul, iI_neg, iI_divn, iI_lt_t, iI_lt_f, iI_le_t, iI_le_f, iI_eq_t, iI_eq_f, iI_lt, iI_le, iI_eq, iI_idx, iI_inb, gI_sI, gL_sL, gZ_sZ, gI_sL, gI_sZ, gL_sI, gL_sZ, gZ_sI, gZ_sL, Nat.reduceEqDiff, false_and, and_false, and_true, true_and, and_self, k_cn, k_wn, k_wn2, k_mg]; done))
        | (with_reducible refine ok_f ?_ ?_; focus (simp (disch := omega) only [↓lt_def, ↓reduceIte, ckB_true, bnd_e, Int.reduceAdd, Int.reduceSub, Int.reduceMul, Int.reduceNeg, Int.reduceToNat, Bool.false_eq_true, eq_self, not_false_eq_true, not_true_eq_false, Int.toNat_natCast, lt0, lt1, lt2, lt3, lt4, lt5, lt6, lt7, lt8, lt9, lt10, lt11, lt12, lt13, lt14, lt15, lt16, lt17, lt18, lt19, lt20, lt21, lt22, lt23, lt24, lt25, lt26, lt27, lt28, lt29, lt30, lt31, lt32, lt40, lt41, lt43, lt48, lt55, lt57, lt59, lt60, lt62, lt63, lt64, lt70, lt72, lt81, lt97, lt99, lt100, lt122, lt162, lt180, lt235, lt255, lt298, lt299, lt325, lt335, lt400, lt837, lt999, lt1000, lt1001, lt1002, lt1003, lt1004, lt1005, lt1006, lt1007, lt1008, lt1100, lt1101, lt1102, lt1103, lt1104, lt1105, lt1135, lt1136, lt1172, lt2000, lt3278, lt3575, lt10000, lt12345, lt21450, lt32767, lt193050, lt1103515245, ltm162, ltm99, ltm81, ltm8, ltm1, iI_add, iI_sub, iI_mul, iI_neg, iI_divn, iI_lt_t, iI_lt_f, iI_le_t, iI_le_f, iI_eq_t, iI_eq_f, iI_lt, iI_le, iI_eq, iI_idx, iI_inb, gI_sI, gL_sL, gZ_sZ, gI_sL, gI_sZ, gL_sI, gL_sZ, gZ_sI, gZ_sL, Nat.reduceEqDiff, false_and, and_false, and_true, true_and, and_self, k_cn, k_wn, k_wn2, k_mg]; done))
        | ((with_reducible refine ok_ite (fun hc => ?_) (fun hc => ?_)) <;> (try simp (disch := omega) only [↓lt_def, ↓reduceIte, ckB_true, bnd_e, Int.reduceAdd, Int.reduceSub, Int.reduceMul, Int.reduceNeg, Int.reduceToNat, Bool.false_eq_true, eq_self, not_false_eq_true, not_true_eq_false, Int.toNat_natCast, lt0, lt1, lt2, lt3, lt4, lt5, lt6, lt7, lt8, lt9, lt10, lt11, lt12, lt13, lt14, lt15, lt16, lt17, lt18, lt19, lt20, lt21, lt22, lt23, lt24, lt25, lt26, lt27, lt28, lt29, lt30, lt31, lt32, lt40, lt41, lt43, lt48, lt55, lt57, lt59, lt60, lt62, lt63, lt64, lt70, lt72, lt81, lt97, lt99, lt100, lt122, lt162, lt180, lt235, lt255, lt298, lt299, lt325, lt335, lt400, lt837, lt999, lt1000, lt1001, lt1002, lt1003, lt1004, lt1005, lt1006, lt1007, lt1008, lt1100, lt1101, lt1102, lt1103, lt1104, lt1105, lt1135, lt1136, lt1172, lt2000, lt3278, lt3575, lt10000, lt12345, lt21450, lt32767, lt193050, lt1103515245, ltm162, ltm99, ltm81, ltm8, ltm1, iI_add, iI_sub, iI_mul, iI_neg, iI_divn, iI_lt_t, iI_lt_f, iI_le_t, iI_le_f, iI_eq_t, iI_eq_f, iI_lt, iI_le, iI_eq, iI_idx, iI_inb, gI_sI, gL_sL, gZ_sZ, gI_sL, gI_sZ, gL_sI, gL_sZ, gZ_sI, gZ_sL, Nat.reduceEqDiff, false_and, and_false, and_true, true_and, and_self, k_cn, k_wn, k_wn2, k_mg] at hc) <;> (try (exfalso; omega)))
        | (with_reducible refine ok_some ?_)
        | (with_reducible refine ok_xr ?_)
        | (with_reducible refine ok_xl ?_)
        | (unfold F_T_enforces)
        | (unfold F_T_mustBeState)
        | (unfold F_T_mustBeBelow)
        | (unfold F_Od_kindOf)
        | (unfold F_M_enforces)
        | (unfold F_M_noPlayed)
        | (unfold F_M_noState)
        | (unfold F_M_size)
        | (unfold F_M_in)
        | (unfold F_M_throwsIf))
      exact ⟨⟨t4, rfl⟩, iv4.inv⟩
    · have e2' : F_Od_chooses (iI p) (2 : Int32) (10 : Int32) (iI l) m1 = some (false, m2) := by
        refine e2.trans ?_
        have hz : cho (opOf (gI m 79) law n mg 0 wd false) p 2 10 (sg 2 l) = false := by
          unfold cho
          rw [decide_eq_false]
          intro q
          have q1 := q.1
          rw [opOf_n] at q1
          have q2 := q.2
          have : ¬ ((2 : Int) = 2 ∧ (opOf (gI m 79) law n mg 0 wd false).mg ≤ sg 2 l) := by
            intro r
            have r2 := r.2
            rw [opOf_mg, hsg] at r2
            exact hg ⟨q1, r2⟩
          unfold twV at q2
          rw [if_neg (show ¬ inn 2 = 3 by decide), if_pos rfl, if_neg this] at q2
          omega
        rw [hz]
      repeat' (first
        | (with_reducible refine ok_ck ?_ ?_; focus (simp (disch := omega) only [↓lt_def, ↓reduceIte, ckB_true, bnd_e, Int.reduceAdd, Int.reduceSub, Int.reduceMul, Int.reduceNeg, Int.reduceToNat, Bool.false_eq_true, eq_self, not_false_eq_true, not_true_eq_false, Int.toNat_natCast, lt0, lt1, lt2, lt3, lt4, lt5, lt6, lt7, lt8, lt9, lt10, lt11, lt12, lt13, lt14, lt15, lt16, lt17, lt18, lt19, lt20, lt21, lt22, lt23, lt24, lt25, lt26, lt27, lt28, lt29, lt30, lt31, lt32, lt40, lt41, lt43, lt48, lt55, lt57, lt59, lt60, lt62, lt63, lt64, lt70, lt72, lt81, lt97, lt99, lt100, lt122, lt162, lt180, lt235, lt255, lt298, lt299, lt325, lt335, lt400, lt837, lt999, lt1000, lt1001, lt1002, lt1003, lt1004, lt1005, lt1006, lt1007, lt1008, lt1100, lt1101, lt1102, lt1103, lt1104, lt1105, lt1135, lt1136, lt1172, lt2000, lt3278, lt3575, lt10000, lt12345, lt21450, lt32767, lt193050, lt1103515245, ltm162, ltm99, ltm81, ltm8, ltm1, iI_add, iI_sub, iI_mul, iI_neg, iI_divn, iI_lt_t, iI_lt_f, iI_le_t, iI_le_f, iI_eq_t, iI_eq_f, iI_lt, iI_le, iI_eq, iI_idx, iI_inb, gI_sI, gL_sL, gZ_sZ, gI_sL, gI_sZ, gL_sI, gL_sZ, gZ_sI, gZ_sL, Nat.reduceEqDiff, false_and, and_false, and_true, true_and, and_self, k_cn, k_wn, k_wn2, k_mg]; done))
        | (with_reducible refine ok_bnd_e (e1') ?_)
        | (with_reducible refine ok_bnd_e (e2') ?_)
        | (with_reducible refine ok_bnd ?_)
        | (with_reducible refine ok_bndX ?_)
        | (with_reducible refine ok_lt ?_)
        | (with_reducible refine ok_t ?_ ?_; focus (simp (disch := omega) only [↓lt_def, ↓reduceIte, ckB_true, bnd_e, Int.reduceAdd, Int.reduceSub, Int.reduceMul, Int.reduceNeg, Int.reduceToNat, Bool.false_eq_true, eq_self, not_false_eq_true, not_true_eq_false, Int.toNat_natCast, lt0, lt1, lt2, lt3, lt4, lt5, lt6, lt7, lt8, lt9, lt10, lt11, lt12, lt13, lt14, lt15, lt16, lt17, lt18, lt19, lt20, lt21, lt22, lt23, lt24, lt25, lt26, lt27, lt28, lt29, lt30, lt31, lt32, lt40, lt41, lt43, lt48, lt55, lt57, lt59, lt60, lt62, lt63, lt64, lt70, lt72, lt81, lt97, lt99, lt100, lt122, lt162, lt180, lt235, lt255, lt298, lt299, lt325, lt335, lt400, lt837, lt999, lt1000, lt1001, lt1002, lt1003, lt1004, lt1005, lt1006, lt1007, lt1008, lt1100, lt1101, lt1102, lt1103, lt1104, lt1105, lt1135, lt1136, lt1172, lt2000, lt3278, lt3575, lt10000, lt12345, lt21450, lt32767, lt193050, lt1103515245, ltm162, ltm99, ltm81, ltm8, ltm1, iI_add, iI_sub, iI_mul, iI_neg, iI_divn, iI_lt_t, iI_lt_f, iI_le_t, iI_le_f, iI_eq_t, iI_eq_f, iI_lt, iI_le, iI_eq, iI_idx, iI_inb, gI_sI, gL_sL, gZ_sZ, gI_sL, gI_sZ, gL_sI, gL_sZ, gZ_sI, gZ_sL, Nat.reduceEqDiff, false_and, and_false, and_true, true_and, and_self, k_cn, k_wn, k_wn2, k_mg]; done))
        | (with_reducible refine ok_f ?_ ?_; focus (simp (disch := omega) only [↓lt_def, ↓reduceIte, ckB_true, bnd_e, Int.reduceAdd, Int.reduceSub, Int.reduceMul, Int.reduceNeg, Int.reduceToNat, Bool.false_eq_true, eq_self, not_false_eq_true, not_true_eq_false, Int.toNat_natCast, lt0, lt1, lt2, lt3, lt4, lt5, lt6, lt7, lt8, lt9, lt10, lt11, lt12, lt13, lt14, lt15, lt16, lt17, lt18, lt19, lt20, lt21, lt22, lt23, lt24, lt25, lt26, lt27, lt28, lt29, lt30, lt31, lt32, lt40, lt41, lt43, lt48, lt55, lt57, lt59, lt60, lt62, lt63, lt64, lt70, lt72, lt81, lt97, lt99, lt100, lt122, lt162, lt180, lt235, lt255, lt298, lt299, lt325, lt335, lt400, lt837, lt999, lt1000, lt1001, lt1002, lt1003, lt1004, lt1005, lt1006, lt1007, lt1008, lt1100, lt1101, lt1102, lt1103, lt1104, lt1105, lt1135, lt1136, lt1172, lt2000, lt3278, lt3575, lt10000, lt12345, lt21450, lt32767, lt193050, lt1103515245, ltm162, ltm99, ltm81, ltm8, ltm1, iI_add, iI_sub, iI_mul, iI_neg, iI_divn, iI_lt_t, iI_lt_f, iI_le_t, iI_le_f, iI_eq_t, iI_eq_f, iI_lt, iI_le, iI_eq, iI_idx, iI_inb, gI_sI, gL_sL, gZ_sZ, gI_sL, gI_sZ, gL_sI, gL_sZ, gZ_sI, gZ_sL, Nat.reduceEqDiff, false_and, and_false, and_true, true_and, and_self, k_cn, k_wn, k_wn2, k_mg]; done))
        | ((with_reducible refine ok_ite (fun hc => ?_) (fun hc => ?_)) <;> (try simp (disch := omega) only [↓lt_def, ↓reduceIte, ckB_true, bnd_e, Int.reduceAdd, Int.reduceSub, Int.reduceMul, Int.reduceNeg, Int.reduceToNat, Bool.false_eq_true, eq_self, not_false_eq_true, not_true_eq_false, Int.toNat_natCast, lt0, lt1, lt2, lt3, lt4, lt5, lt6, lt7, lt8, lt9, lt10, lt11, lt12, lt13, lt14, lt15, lt16, lt17, lt18, lt19, lt20, lt21, lt22, lt23, lt24, lt25, lt26, lt27, lt28, lt29, lt30, lt31, lt32, lt40, lt41, lt43, lt48, lt55, lt57, lt59, lt60, lt62, lt63, lt64, lt70, lt72, lt81, lt97, lt99, lt100, lt122, lt162, lt180, lt235, lt255, lt298, lt299, lt325, lt335, lt400, lt837, lt999, lt1000, lt1001, lt1002, lt1003, lt1004, lt1005, lt1006, lt1007, lt1008, lt1100, lt1101, lt1102, lt1103, lt1104, lt1105, lt1135, lt1136, lt1172, lt2000, lt3278, lt3575, lt10000, lt12345, lt21450, lt32767, lt193050, lt1103515245, ltm162, ltm99, ltm81, ltm8, ltm1, iI_add, iI_sub, iI_mul, iI_neg, iI_divn, iI_lt_t, iI_lt_f, iI_le_t, iI_le_f, iI_eq_t, iI_eq_f, iI_lt, iI_le, iI_eq, iI_idx, iI_inb, gI_sI, gL_sL, gZ_sZ, gI_sL, gI_sZ, gL_sI, gL_sZ, gZ_sI, gZ_sL, Nat.reduceEqDiff, false_and, and_false, and_true, true_and, and_self, k_cn, k_wn, k_wn2, k_mg] at hc) <;> (try (exfalso; omega)))
        | (with_reducible refine ok_some ?_)
        | (with_reducible refine ok_xr ?_)
        | (with_reducible refine ok_xl ?_)
        | (unfold F_T_enforces)
        | (unfold F_T_mustBeState)
        | (unfold F_T_mustBeBelow)
        | (unfold F_Od_kindOf)
        | (unfold F_M_enforces)
        | (unfold F_M_noPlayed)
        | (unfold F_M_noState)
        | (unfold F_M_size)
        | (unfold F_M_in)
        | (unfold F_M_throwsIf))
      all_goals exact ⟨⟨rfl, rfl⟩, iv2'.inv⟩
  · skip
    repeat' (first
      | (with_reducible refine ok_ck ?_ ?_; focus (simp (disch := omega) only [↓lt_def, ↓reduceIte, ckB_true, bnd_e, Int.reduceAdd, Int.reduceSub, Int.reduceMul, Int.reduceNeg, Int.reduceToNat, Bool.false_eq_true, eq_self, not_false_eq_true, not_true_eq_false, Int.toNat_natCast, lt0, lt1, lt2, lt3, lt4, lt5, lt6, lt7, lt8, lt9, lt10, lt11, lt12, lt13, lt14, lt15, lt16, lt17, lt18, lt19, lt20, lt21, lt22, lt23, lt24, lt25, lt26, lt27, lt28, lt29, lt30, lt31, lt32, lt40, lt41, lt43, lt48, lt55, lt57, lt59, lt60, lt62, lt63, lt64, lt70, lt72, lt81, lt97, lt99, lt100, lt122, lt162, lt180, lt235, lt255, lt298, lt299, lt325, lt335, lt400, lt837, lt999, lt1000, lt1001, lt1002, lt1003, lt1004, lt1005, lt1006, lt1007, lt1008, lt1100, lt1101, lt1102, lt1103, lt1104, lt1105, lt1135, lt1136, lt1172, lt2000, lt3278, lt3575, lt10000, lt12345, lt21450, lt32767, lt193050, lt1103515245, ltm162, ltm99, ltm81, ltm8, ltm1, iI_add, iI_sub, iI_mul, iI_neg, iI_divn, iI_lt_t, iI_lt_f, iI_le_t, iI_le_f, iI_eq_t, iI_eq_f, iI_lt, iI_le, iI_eq, iI_idx, iI_inb, gI_sI, gL_sL, gZ_sZ, gI_sL, gI_sZ, gL_sI, gL_sZ, gZ_sI, gZ_sL, Nat.reduceEqDiff, false_and, and_false, and_true, true_and, and_self, k_cn, k_wn]; done))
      | (with_reducible refine ok_bnd ?_)
      | (with_reducible refine ok_bndX ?_)
      | (with_reducible refine ok_lt ?_)
      | (with_reducible refine ok_t ?_ ?_; focus (simp (disch := omega) only [↓lt_def, ↓reduceIte, ckB_true, bnd_e, Int.reduceAdd, Int.reduceSub, Int.reduceMul, Int.reduceNeg, Int.reduceToNat, Bool.false_eq_true, eq_self, not_false_eq_true, not_true_eq_false, Int.toNat_natCast, lt0, lt1, lt2, lt3, lt4, lt5, lt6, lt7, lt8, lt9, lt10, lt11, lt12, lt13, lt14, lt15, lt16, lt17, lt18, lt19, lt20, lt21, lt22, lt23, lt24, lt25, lt26, lt27, lt28, lt29, lt30, lt31, lt32, lt40, lt41, lt43, lt48, lt55, lt57, lt59, lt60, lt62, lt63, lt64, lt70, lt72, lt81, lt97, lt99, lt100, lt122, lt162, lt180, lt235, lt255, lt298, lt299, lt325, lt335, lt400, lt837, lt999, lt1000, lt1001, lt1002, lt1003, lt1004, lt1005, lt1006, lt1007, lt1008, lt1100, lt1101, lt1102, lt1103, lt1104, lt1105, lt1135, lt1136, lt1172, lt2000, lt3278, lt3575, lt10000, lt12345, lt21450, lt32767, lt193050, lt1103515245, ltm162, ltm99, ltm81, ltm8, ltm1, iI_add, iI_sub, iI_mul, iI_neg, iI_divn, iI_lt_t, iI_lt_f, iI_le_t, iI_le_f, iI_eq_t, iI_eq_f, iI_lt, iI_le, iI_eq, iI_idx, iI_inb, gI_sI, gL_sL, gZ_sZ, gI_sL, gI_sZ, gL_sI, gL_sZ, gZ_sI, gZ_sL, Nat.reduceEqDiff, false_and, and_false, and_true, true_and, and_self, k_cn, k_wn]; done))
      | (with_reducible refine ok_f ?_ ?_; focus (simp (disch := omega) only [↓lt_def, ↓reduceIte, ckB_true, bnd_e, Int.reduceAdd, Int.reduceSub, Int.reduceMul, Int.reduceNeg, Int.reduceToNat, Bool.false_eq_true, eq_self, not_false_eq_true, not_true_eq_false, Int.toNat_natCast, lt0, lt1, lt2, lt3, lt4, lt5, lt6, lt7, lt8, lt9, lt10, lt11, lt12, lt13, lt14, lt15, lt16, lt17, lt18, lt19, lt20, lt21, lt22, lt23, lt24, lt25, lt26, lt27, lt28, lt29, lt30, lt31, lt32, lt40, lt41, lt43, lt48, lt55, lt57, lt59, lt60, lt62, lt63, lt64, lt70, lt72, lt81, lt97, lt99, lt100, lt122, lt162, lt180, lt235, lt255, lt298, lt299, lt325, lt335, lt400, lt837, lt999, lt1000, lt1001, lt1002, lt1003, lt1004, lt1005, lt1006, lt1007, lt1008, lt1100, lt1101, lt1102, lt1103, lt1104, lt1105, lt1135, lt1136, lt1172, lt2000, lt3278, lt3575, lt10000, lt12345, lt21450, lt32767, lt193050, lt1103515245, ltm162, ltm99, ltm81, ltm8, ltm1, iI_add, iI_sub, iI_mul, iI_neg, iI_divn, iI_lt_t, iI_lt_f, iI_le_t, iI_le_f, iI_eq_t, iI_eq_f, iI_lt, iI_le, iI_eq, iI_idx, iI_inb, gI_sI, gL_sL, gZ_sZ, gI_sL, gI_sZ, gL_sI, gL_sZ, gZ_sI, gZ_sL, Nat.reduceEqDiff, false_and, and_false, and_true, true_and, and_self, k_cn, k_wn]; done))
      | ((with_reducible refine ok_ite (fun hc => ?_) (fun hc => ?_)) <;> (try simp (disch := omega) only [↓lt_def, ↓reduceIte, ckB_true, bnd_e, Int.reduceAdd, Int.reduceSub, Int.reduceMul, Int.reduceNeg, Int.reduceToNat, Bool.false_eq_true, eq_self, not_false_eq_true, not_true_eq_false, Int.toNat_natCast, lt0, lt1, lt2, lt3, lt4, lt5, lt6, lt7, lt8, lt9, lt10, lt11, lt12, lt13, lt14, lt15, lt16, lt17, lt18, lt19, lt20, lt21, lt22, lt23, lt24, lt25, lt26, lt27, lt28, lt29, lt30, lt31, lt32, lt40, lt41, lt43, lt48, lt55, lt57, lt59, lt60, lt62, lt63, lt64, lt70, lt72, lt81, lt97, lt99, lt100, lt122, lt162, lt180, lt235, lt255, lt298, lt299, lt325, lt335, lt400, lt837, lt999, lt1000, lt1001, lt1002, lt1003, lt1004, lt1005, lt1006, lt1007, lt1008, lt1100, lt1101, lt1102, lt1103, lt1104, lt1105, lt1135, lt1136, lt1172, lt2000, lt3278, lt3575, lt10000, lt12345, lt21450, lt32767, lt193050, lt1103515245, ltm162, ltm99, ltm81, ltm8, ltm1, iI_add, iI_sub, iI_mul, iI_neg, iI_divn, iI_lt_t, iI_lt_f, iI_le_t, iI_le_f, iI_eq_t, iI_eq_f, iI_lt, iI_le, iI_eq, iI_idx, iI_inb, gI_sI, gL_sL, gZ_sZ, gI_sL, gI_sZ, gL_sI, gL_sZ, gZ_sI, gZ_sL, Nat.reduceEqDiff, false_and, and_false, and_true, true_and, and_self, k_cn, k_wn] at hc) <;> (try (exfalso; omega)))
      | (with_reducible refine ok_some ?_)
      | (with_reducible refine ok_xr ?_)
      | (with_reducible refine ok_xl ?_)
      | (unfold F_T_enforces)
      | (unfold F_T_mustBeState)
      | (unfold F_T_mustBeBelow)
      | (unfold F_M_enforces)
      | (unfold F_M_noPlayed)
      | (unfold F_M_noState)
      | (unfold F_M_size)
      | (unfold F_M_in)
      | (unfold F_M_throwsIf))
    all_goals exact ⟨ansZ_l (by decide) rfl, ((h.thr thr_ss).up (by omega)).inv⟩
end TOLD
