section LAWEV
/-- codes of a condition that leave one truth value: by kinds (true: a truth value) of what lies on the stack -/
def okT : List Int → List Bool → Prop
  | [], ts => ts = [true]
  | c :: cs, ts => ts.length < 60 ∧ ((0 ≤ c ∧ c < 1006 ∧ okT cs (false :: ts)) ∨ ((c = 1006 ∨ c = 1007) ∧ okT cs (true :: ts)) ∨ (c = 1100 ∧ ∃ r, ts = true :: r ∧ okT cs (true :: r)) ∨ ((c = 1101 ∨ c = 1102) ∧ ∃ r, ts = true :: true :: r ∧ okT cs (true :: r)) ∨ ((c = 1103 ∨ c = 1104) ∧ ∃ r, ts = false :: false :: r ∧ okT cs (true :: r)) ∨ (c = 1105 ∧ ∃ r, ts = false :: false :: r ∧ okT cs (false :: r)))
/-- what two values come to -/
def opS (c : Int) (x y : Int32) : Int32 := if c = 1101 then x &&& y else if c = 1102 then x ||| y else if c = 1103 then (if y ≤ x then 0 else 1) else if c = 1104 then (if x ≤ y then 0 else 1) else x + y
def stS (fact : Int → Int32) (c : Int) (st : List Int32) : List Int32 := if c < 1008 then (if c < 1000 then iI c else fact c) :: st else match st with
  | [] => []
  | a :: r => if c = 1100 then (1 - a) :: r else match r with
    | [] => []
    | b :: q => opS c b a :: q
def evS (fact : Int → Int32) : List Int → List Int32 → List Int32
  | [], st => st
  | c :: cs, st => evS fact cs (stS fact c st)
/-- a stack in a row of numbers, its top first -/
def SR (m : Mem) (o : Nat) : List Int32 → Prop
  | [] => True
  | v :: r => gI m o r.length = v ∧ SR m o r
/-- kinds and values -/
def TV : List Bool → List Int32 → Prop
  | [], [] => True
  | t :: ts, v :: vs => (t = true → v = 0 ∨ v = 1) ∧ TV ts vs
  | _, _ => False
theorem TV_len : ∀ {ts : List Bool} {vs : List Int32}, TV ts vs → ts.length = vs.length
  | [], [], _ => rfl
  | t :: ts, v :: vs, h => by simp [TV_len h.2]
  | [], _ :: _, h => h.elim
  | _ :: _, [], h => h.elim
theorem SR_congr {m m' : Mem} {o : Nat} : ∀ {st : List Int32}, (∀ j, j < st.length → gI m' o j = gI m o j) → SR m o st → SR m' o st
  | [], _, _ => trivial
  | v :: r, h, hs => ⟨(h r.length (by simp)).trans hs.1, SR_congr (fun j hj => h j (by simp only [List.length_cons]; omega)) hs.2⟩
theorem SR_push {m : Mem} {o : Nat} {st : List Int32} {v : Int32} (h : SR m o st) : SR (sI m o st.length v) o (v :: st) := ⟨by simp [gI_sI], SR_congr (fun j hj => by rw [gI_sI, if_neg (by omega)]) h⟩
/-- numbers of a row -/
def RowIs (m : Mem) (o i : Nat) : List Int → Prop
  | [] => True
  | c :: cs => gI m o i = iI c ∧ RowIs m o (i + 1) cs
theorem RowIs_congr {m m' : Mem} {o : Nat} : ∀ {cs : List Int} {i : Nat}, (∀ j, gI m' o j = gI m o j) → RowIs m o i cs → RowIs m' o i cs
  | [], _, _, _ => trivial
  | _ :: _, _, h, hs => ⟨(h _).trans hs.1, RowIs_congr h hs.2⟩
theorem RowIs_app {m : Mem} {o : Nat} : ∀ {a b : List Int} {i : Nat}, RowIs m o i (a ++ b) ↔ RowIs m o i a ∧ RowIs m o (i + a.length) b
  | [], b, i => by simp [RowIs]
  | c :: a, b, i => by
    simp only [List.cons_append, RowIs, RowIs_app (a := a), List.length_cons, and_assoc]
    rw [show i + 1 + a.length = i + (a.length + 1) by omega]
/-! the class -/
theorem stackAt_eq {z : Int} {m : Mem} (h0 : 0 ≤ z) (h : z < 64) : F_Lw_stackAt (iI z) m = some (gI m 11 z.toNat, m) := by
  unfold F_Lw_stackAt
  simp (disch := omega) only [lt_def, ckB_true, bnd_e, if_pos, if_neg, if_true, if_false, Int.toNat_natCast, lt0, lt1, lt2, lt3, lt4, lt5, lt6, lt7, lt8, lt9, lt10, lt11, lt12, lt13, lt14, lt15, lt16, lt17, lt18, lt19, lt20, lt21, lt22, lt23, lt24, lt25, lt26, lt27, lt28, lt29, lt30, lt31, lt32, lt40, lt41, lt43, lt48, lt55, lt57, lt59, lt60, lt62, lt63, lt64, lt70, lt72, lt81, lt97, lt99, lt100, lt122, lt162, lt180, lt235, lt255, lt298, lt299, lt325, lt335, lt400, lt837, lt999, lt1000, lt1001, lt1002, lt1003, lt1004, lt1005, lt1006, lt1007, lt1008, lt1100, lt1101, lt1102, lt1103, lt1104, lt1105, lt1135, lt1136, lt1172, lt2000, lt3278, lt3575, lt10000, lt12345, lt21450, lt32767, lt193050, lt1103515245, ltm162, ltm99, ltm81, ltm8, ltm1, iI_add, iI_sub, iI_mul, iI_neg, iI_divn, iI_lt, iI_le, iI_eq, iI_idx, iI_inb, gI_sI, gL_sL, gZ_sZ, gI_sL, gI_sZ, gL_sI, gL_sZ, gZ_sI, gZ_sL]
theorem setStack_eq {z : Int} {v : Int32} {m : Mem} (h0 : 0 ≤ z) (h : z < 64) : F_Lw_setStack (iI z) v m = some ((), sI m 11 z.toNat v) := by
  unfold F_Lw_setStack
  simp (disch := omega) only [lt_def, ckB_true, bnd_e, if_pos, if_neg, if_true, if_false, Int.toNat_natCast, lt0, lt1, lt2, lt3, lt4, lt5, lt6, lt7, lt8, lt9, lt10, lt11, lt12, lt13, lt14, lt15, lt16, lt17, lt18, lt19, lt20, lt21, lt22, lt23, lt24, lt25, lt26, lt27, lt28, lt29, lt30, lt31, lt32, lt40, lt41, lt43, lt48, lt55, lt57, lt59, lt60, lt62, lt63, lt64, lt70, lt72, lt81, lt97, lt99, lt100, lt122, lt162, lt180, lt235, lt255, lt298, lt299, lt325, lt335, lt400, lt837, lt999, lt1000, lt1001, lt1002, lt1003, lt1004, lt1005, lt1006, lt1007, lt1008, lt1100, lt1101, lt1102, lt1103, lt1104, lt1105, lt1135, lt1136, lt1172, lt2000, lt3278, lt3575, lt10000, lt12345, lt21450, lt32767, lt193050, lt1103515245, ltm162, ltm99, ltm81, ltm8, ltm1, iI_add, iI_sub, iI_mul, iI_neg, iI_divn, iI_lt, iI_le, iI_eq, iI_idx, iI_inb, gI_sI, gL_sL, gZ_sZ, gI_sL, gI_sZ, gL_sI, gL_sZ, gZ_sI, gZ_sL]
theorem placeAt_eq {z : Int} {m : Mem} (h0 : 0 ≤ z) (h : z < 8) : F_Lw_placeAt (iI z) m = some (gI m 10 z.toNat, m) := by
  unfold F_Lw_placeAt
  simp (disch := omega) only [lt_def, ckB_true, bnd_e, if_pos, if_neg, if_true, if_false, Int.toNat_natCast, lt0, lt1, lt2, lt3, lt4, lt5, lt6, lt7, lt8, lt9, lt10, lt11, lt12, lt13, lt14, lt15, lt16, lt17, lt18, lt19, lt20, lt21, lt22, lt23, lt24, lt25, lt26, lt27, lt28, lt29, lt30, lt31, lt32, lt40, lt41, lt43, lt48, lt55, lt57, lt59, lt60, lt62, lt63, lt64, lt70, lt72, lt81, lt97, lt99, lt100, lt122, lt162, lt180, lt235, lt255, lt298, lt299, lt325, lt335, lt400, lt837, lt999, lt1000, lt1001, lt1002, lt1003, lt1004, lt1005, lt1006, lt1007, lt1008, lt1100, lt1101, lt1102, lt1103, lt1104, lt1105, lt1135, lt1136, lt1172, lt2000, lt3278, lt3575, lt10000, lt12345, lt21450, lt32767, lt193050, lt1103515245, ltm162, ltm99, ltm81, ltm8, ltm1, iI_add, iI_sub, iI_mul, iI_neg, iI_divn, iI_lt, iI_le, iI_eq, iI_idx, iI_inb, gI_sI, gL_sL, gZ_sZ, gI_sL, gI_sZ, gL_sI, gL_sZ, gZ_sI, gZ_sL]
theorem joined_eq {c : Int} {x y : Int32} {m : Mem} (h1 : 0 ≤ c) (h2 : c < 3000) : F_Lw_joined (iI c) x y m = some (opS c x y, m) := by
  unfold F_Lw_joined opS
  simp only [show (1101 : Int32) = iI 1101 from rfl, show (1102 : Int32) = iI 1102 from rfl, show (1103 : Int32) = iI 1103 from rfl, show (1104 : Int32) = iI 1104 from rfl]
  simp (disch := omega) only [lt0, lt1, lt2, lt3, lt4, lt5, lt6, lt7, lt8, lt9, lt10, lt11, lt12, lt13, lt14, lt15, lt16, lt17, lt18, lt19, lt20, lt21, lt22, lt23, lt24, lt25, lt26, lt27, lt28, lt29, lt30, lt31, lt32, lt40, lt41, lt43, lt48, lt55, lt57, lt59, lt60, lt62, lt63, lt64, lt70, lt72, lt81, lt97, lt99, lt100, lt122, lt162, lt180, lt235, lt255, lt298, lt299, lt325, lt335, lt400, lt837, lt999, lt1000, lt1001, lt1002, lt1003, lt1004, lt1005, lt1006, lt1007, lt1008, lt1100, lt1101, lt1102, lt1103, lt1104, lt1105, lt1135, lt1136, lt1172, lt2000, lt3278, lt3575, lt10000, lt12345, lt21450, lt32767, lt193050, lt1103515245, ltm162, ltm99, ltm81, ltm8, ltm1, iI_add, iI_sub, iI_mul, iI_neg, iI_divn, iI_lt, iI_le, iI_eq, iI_idx, iI_inb]
  split
  · rfl
  split
  · rfl
  split
  · split <;> rfl
  split
  · split <;> rfl
  rfl
/-- one code of the class -/
theorem cl_step (fact : Int → Int32) (c : Int) (i : Nat) (sum : Int32) (st : List Int32) (m : Mem) (nf : Nat) (size : Nat) (hsz : gI m 8 1 = iI size) (h4 : size ≤ 400) (hi : i < size) (hc : gI m 9 i = iI c) (hc0 : 0 ≤ c) (hc1 : c < 1106) (hst : SR m 11 st) (hl : st.length < 60) (hneed : c < 1008 ∨ (c = 1100 ∧ 1 ≤ st.length) ∨ (1101 ≤ c ∧ 2 ≤ st.length)) (hf : ∀ k : Nat, k < 8 → gI m 10 k = fact (1000 + k)) : ∃ m', F_Lw_hardness_L6 (nf + 1) sum (iI st.length) (iI i) m = F_Lw_hardness_L6 nf sum (iI (stS fact c st).length) (iI ((i : Int) + 1)) m' ∧ SR m' 11 (stS fact c st) ∧ ∀ o j, o ≠ 11 → gI m' o j = gI m o j := by
  rw [F_Lw_hardness_L6]
  rcases hneed with h | ⟨rfl, h⟩ | ⟨h, h'⟩
  · refine ⟨sI m 11 st.length (if c < 1000 then iI c else fact c), ?_, ?_, ?_⟩
    · by_cases h2 : c < 1000
      · simp (disch := omega) only [lt_def, ckB_true, bnd_e, if_pos, if_neg, if_true, if_false, Int.toNat_natCast, lt0, lt1, lt2, lt3, lt4, lt5, lt6, lt7, lt8, lt9, lt10, lt11, lt12, lt13, lt14, lt15, lt16, lt17, lt18, lt19, lt20, lt21, lt22, lt23, lt24, lt25, lt26, lt27, lt28, lt29, lt30, lt31, lt32, lt40, lt41, lt43, lt48, lt55, lt57, lt59, lt60, lt62, lt63, lt64, lt70, lt72, lt81, lt97, lt99, lt100, lt122, lt162, lt180, lt235, lt255, lt298, lt299, lt325, lt335, lt400, lt837, lt999, lt1000, lt1001, lt1002, lt1003, lt1004, lt1005, lt1006, lt1007, lt1008, lt1100, lt1101, lt1102, lt1103, lt1104, lt1105, lt1135, lt1136, lt1172, lt2000, lt3278, lt3575, lt10000, lt12345, lt21450, lt32767, lt193050, lt1103515245, ltm162, ltm99, ltm81, ltm8, ltm1, iI_add, iI_sub, iI_mul, iI_neg, iI_divn, iI_lt, iI_le, iI_eq, iI_idx, iI_inb, gI_sI, gL_sL, gZ_sZ, gI_sL, gI_sZ, gL_sI, gL_sZ, gZ_sI, gZ_sL, hsz, hc, stS]
        simp
      · obtain ⟨k, rfl⟩ : ∃ k : Nat, c = 1000 + k := ⟨(c - 1000).toNat, by omega⟩
        simp (disch := omega) only [lt_def, ckB_true, bnd_e, if_pos, if_neg, if_true, if_false, Int.toNat_natCast, lt0, lt1, lt2, lt3, lt4, lt5, lt6, lt7, lt8, lt9, lt10, lt11, lt12, lt13, lt14, lt15, lt16, lt17, lt18, lt19, lt20, lt21, lt22, lt23, lt24, lt25, lt26, lt27, lt28, lt29, lt30, lt31, lt32, lt40, lt41, lt43, lt48, lt55, lt57, lt59, lt60, lt62, lt63, lt64, lt70, lt72, lt81, lt97, lt99, lt100, lt122, lt162, lt180, lt235, lt255, lt298, lt299, lt325, lt335, lt400, lt837, lt999, lt1000, lt1001, lt1002, lt1003, lt1004, lt1005, lt1006, lt1007, lt1008, lt1100, lt1101, lt1102, lt1103, lt1104, lt1105, lt1135, lt1136, lt1172, lt2000, lt3278, lt3575, lt10000, lt12345, lt21450, lt32767, lt193050, lt1103515245, ltm162, ltm99, ltm81, ltm8, ltm1, iI_add, iI_sub, iI_mul, iI_neg, iI_divn, iI_lt, iI_le, iI_eq, iI_idx, iI_inb, gI_sI, gL_sL, gZ_sZ, gI_sL, gI_sZ, gL_sI, gL_sZ, gZ_sI, gZ_sL, hsz, hc, stS, placeAt_eq]
        rw [show ((1000 : Int) + k - 1000).toNat = k by omega, hf k (by omega)]
        simp
    · simp only [stS, if_pos h]
      exact SR_push hst
    · intro o j ho
      rw [gI_sI, if_neg (by omega)]
  · match st, hst, h with
    | a :: r, hst, h =>
      refine ⟨sI m 11 r.length (1 - a), ?_, ?_, ?_⟩
      · simp only [List.length_cons] at hl ⊢
        simp (disch := omega) only [lt_def, ckB_true, bnd_e, if_pos, if_neg, if_true, if_false, Int.toNat_natCast, lt0, lt1, lt2, lt3, lt4, lt5, lt6, lt7, lt8, lt9, lt10, lt11, lt12, lt13, lt14, lt15, lt16, lt17, lt18, lt19, lt20, lt21, lt22, lt23, lt24, lt25, lt26, lt27, lt28, lt29, lt30, lt31, lt32, lt40, lt41, lt43, lt48, lt55, lt57, lt59, lt60, lt62, lt63, lt64, lt70, lt72, lt81, lt97, lt99, lt100, lt122, lt162, lt180, lt235, lt255, lt298, lt299, lt325, lt335, lt400, lt837, lt999, lt1000, lt1001, lt1002, lt1003, lt1004, lt1005, lt1006, lt1007, lt1008, lt1100, lt1101, lt1102, lt1103, lt1104, lt1105, lt1135, lt1136, lt1172, lt2000, lt3278, lt3575, lt10000, lt12345, lt21450, lt32767, lt193050, lt1103515245, ltm162, ltm99, ltm81, ltm8, ltm1, iI_add, iI_sub, iI_mul, iI_neg, iI_divn, iI_lt, iI_le, iI_eq, iI_idx, iI_inb, gI_sI, gL_sL, gZ_sZ, gI_sL, gI_sZ, gL_sI, gL_sZ, gZ_sI, gZ_sL, hsz, hc, stS, stackAt_eq, setStack_eq, hst.1]
        rw [show (((r.length + 1 : Nat) : Int) - 1).toNat = r.length by omega, hst.1]
        rfl
      · exact ⟨by simp [gI_sI], SR_congr (fun j hj => by rw [gI_sI, if_neg (by omega)]) hst.2⟩
      · intro o j ho
        rw [gI_sI, if_neg (by omega)]
  · match st, hst, h' with
    | a :: b :: r, hst, h' =>
      refine ⟨sI m 11 r.length (opS c b a), ?_, ?_, ?_⟩
      · simp only [List.length_cons] at hl ⊢
        simp (disch := omega) only [lt_def, ckB_true, bnd_e, if_pos, if_neg, if_true, if_false, Int.toNat_natCast, lt0, lt1, lt2, lt3, lt4, lt5, lt6, lt7, lt8, lt9, lt10, lt11, lt12, lt13, lt14, lt15, lt16, lt17, lt18, lt19, lt20, lt21, lt22, lt23, lt24, lt25, lt26, lt27, lt28, lt29, lt30, lt31, lt32, lt40, lt41, lt43, lt48, lt55, lt57, lt59, lt60, lt62, lt63, lt64, lt70, lt72, lt81, lt97, lt99, lt100, lt122, lt162, lt180, lt235, lt255, lt298, lt299, lt325, lt335, lt400, lt837, lt999, lt1000, lt1001, lt1002, lt1003, lt1004, lt1005, lt1006, lt1007, lt1008, lt1100, lt1101, lt1102, lt1103, lt1104, lt1105, lt1135, lt1136, lt1172, lt2000, lt3278, lt3575, lt10000, lt12345, lt21450, lt32767, lt193050, lt1103515245, ltm162, ltm99, ltm81, ltm8, ltm1, iI_add, iI_sub, iI_mul, iI_neg, iI_divn, iI_lt, iI_le, iI_eq, iI_idx, iI_inb, gI_sI, gL_sL, gZ_sZ, gI_sL, gI_sZ, gL_sI, gL_sZ, gZ_sI, gZ_sL, hsz, hc, stS, stackAt_eq, setStack_eq, joined_eq]
        rw [show (((r.length + 1 + 1 : Nat) : Int) + -1 - 1).toNat = r.length by omega, show (((r.length + 1 + 1 : Nat) : Int) + -1).toNat = r.length + 1 by omega, show ((r.length + 1 + 1 : Nat) : Int) + -1 = ((r.length + 1 : Nat) : Int) by omega, show gI m 11 (r.length + 1) = a from hst.1, hst.2.1]
        rfl
      · simp only [stS, if_neg (show ¬ c < 1008 by omega), if_neg (show ¬ c = 1100 by omega)]
        exact ⟨by simp [gI_sI], SR_congr (fun j hj => by rw [gI_sI, if_neg (by omega)]) hst.2.2⟩
      · intro o j ho
        rw [gI_sI, if_neg (by omega)]
/-- a condition's codes, one behind another -/
theorem cl_run (fact : Int → Int32) : ∀ (cs : List Int) (ts : List Bool) (i : Nat) (sum : Int32) (st : List Int32) (m : Mem) (nf : Nat) (size : Nat), gI m 8 1 = iI size → size ≤ 400 → i + cs.length ≤ size → RowIs m 9 i cs → SR m 11 st → TV ts st → okT cs ts → (∀ k : Nat, k < 8 → gI m 10 k = fact (1000 + k)) → (∀ k : Int, k = 1006 ∨ k = 1007 → fact k = 0 ∨ fact k = 1) →
    ∃ m' v, F_Lw_hardness_L6 (nf + cs.length) sum (iI st.length) (iI i) m = F_Lw_hardness_L6 nf sum (iI 1) (iI (i + cs.length : Nat)) m' ∧ evS fact cs st = [v] ∧ (v = 0 ∨ v = 1) ∧ gI m' 11 0 = v ∧ ∀ o j, o ≠ 11 → gI m' o j = gI m o j
  | [], ts, i, sum, st, m, nf, size, hsz, h4, hi, hr, hst, htv, hok, hf, hb => by
    have h1 : ts = [true] := hok
    subst h1
    match st, htv, hst with
    | [v], htv, hst => exact ⟨m, v, rfl, rfl, htv.1 rfl, hst.1, fun _ _ _ => rfl⟩
  | c :: cs, ts, i, sum, st, m, nf, size, hsz, h4, hi, hr, hst, htv, hok, hf, hb => by
    have hlen := TV_len htv
    obtain ⟨hl, hcase⟩ := hok
    rw [List.length_cons] at hi
    have key : 0 ≤ c ∧ c < 1106 ∧ (c < 1008 ∨ (c = 1100 ∧ 1 ≤ st.length) ∨ (1101 ≤ c ∧ 2 ≤ st.length)) ∧ ∃ ts', okT cs ts' ∧ TV ts' (stS fact c st) := by
      rcases hcase with ⟨a1, a2, a3⟩ | ⟨a1, a3⟩ | ⟨a1, r, rfl, a3⟩ | ⟨a1, r, rfl, a3⟩ | ⟨a1, r, rfl, a3⟩ | ⟨a1, r, rfl, a3⟩
      · refine ⟨a1, by omega, Or.inl (by omega), _, a3, ?_⟩
        simp only [stS, if_pos (show c < 1008 by omega)]
        exact ⟨fun h => absurd h (by decide), htv⟩
      · refine ⟨by omega, by omega, Or.inl (by omega), _, a3, ?_⟩
        simp only [stS, if_pos (show c < 1008 by omega), if_neg (show ¬ c < 1000 by omega)]
        exact ⟨fun _ => hb c a1, htv⟩
      · match st, htv, hlen with
        | a :: s, htv, hlen =>
          refine ⟨by omega, by omega, Or.inr (Or.inl ⟨a1, by simp⟩), _, a3, ?_⟩
          simp only [stS, if_neg (show ¬ c < 1008 by omega), if_pos a1]
          refine ⟨fun _ => ?_, htv.2⟩
          rcases htv.1 rfl with h | h <;> rw [h]
          · exact Or.inr rfl
          · exact Or.inl rfl
      · match st, htv, hlen with
        | a :: b :: s, htv, hlen =>
          refine ⟨by omega, by omega, Or.inr (Or.inr ⟨by omega, by simp⟩), _, a3, ?_⟩
          simp only [stS, if_neg (show ¬ c < 1008 by omega), if_neg (show ¬ c = 1100 by omega)]
          refine ⟨fun _ => ?_, htv.2.2⟩
          rcases htv.1 rfl with h | h <;> rcases htv.2.1 rfl with h' | h' <;> rcases a1 with a1 | a1 <;> rw [h, h', a1] <;> first | exact Or.inl rfl | exact Or.inr rfl
      · match st, htv, hlen with
        | a :: b :: s, htv, hlen =>
          refine ⟨by omega, by omega, Or.inr (Or.inr ⟨by omega, by simp⟩), _, a3, ?_⟩
          simp only [stS, if_neg (show ¬ c < 1008 by omega), if_neg (show ¬ c = 1100 by omega)]
          refine ⟨fun _ => ?_, htv.2.2⟩
          unfold opS
          rw [if_neg (by omega), if_neg (by omega)]
          split
          · split
            · exact Or.inl rfl
            · exact Or.inr rfl
          rw [if_pos (by omega)]
          split
          · exact Or.inl rfl
          · exact Or.inr rfl
      · match st, htv, hlen with
        | a :: b :: s, htv, hlen =>
          refine ⟨by omega, by omega, Or.inr (Or.inr ⟨by omega, by simp⟩), _, a3, ?_⟩
          simp only [stS, if_neg (show ¬ c < 1008 by omega), if_neg (show ¬ c = 1100 by omega)]
          exact ⟨fun h => absurd h (by decide), htv.2.2⟩
    obtain ⟨k1, k2, k3, ts', k4, k5⟩ := key
    obtain ⟨m1, e1, s1, f1⟩ := cl_step fact c i sum st m (nf + cs.length) size hsz h4 (by omega) hr.1 k1 k2 hst (by omega) k3 hf
    obtain ⟨m2, v, e2, e3, e4, e5, f2⟩ := cl_run fact cs ts' (i + 1) sum (stS fact c st) m1 nf size (by rw [f1 8 1 (by decide)]; exact hsz) h4 (by omega) (RowIs_congr (fun j => f1 9 j (by decide)) hr.2) s1 k5 k4 (fun k hk => by rw [f1 10 k (by decide)]; exact hf k hk) hb
    refine ⟨m2, v, ?_, e3, e4, e5, fun o j ho => (f2 o j ho).trans (f1 o j ho)⟩
    rw [List.length_cons, show nf + (cs.length + 1) = nf + cs.length + 1 by omega, e1]
    rw [show ((i : Int) + 1) = ((i + 1 : Nat) : Int) by omega, e2]
    congr 2
    omega
end LAWEV
