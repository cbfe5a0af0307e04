section OCLS
theorem fb0 : fb 0 = true := rfl
theorem fb1 : fb 1 = false := rfl
theorem fb2 : fb 2 = true := rfl
theorem fb3 : fb 3 = false := rfl
theorem fb4 : fb 4 = false := rfl
theorem fb5 : fb 5 = true := rfl
theorem inn0 : inn 0 = 0 := rfl
theorem inn1 : inn 1 = 1 := rfl
theorem inn2 : inn 2 = 2 := rfl
theorem inn3 : inn 3 = 3 := rfl
theorem inn4 : inn 4 = 2 := rfl
theorem inn5 : inn 5 = 3 := rfl
theorem firstBats_eq {k : Int} {m : Mem} (k0 : 0 ≤ k) (k5 : k ≤ 5) : F_Od_firstBats (iI k) m = some (fb k, m) := by
  unfold F_Od_firstBats
  rcases (show k = 0 ∨ k = 1 ∨ k = 2 ∨ k = 3 ∨ k = 4 ∨ k = 5 by omega) with rfl | rfl | rfl | rfl | rfl | rfl <;> rfl
theorem inningsOf_eq {k : Int} {m : Mem} (k0 : 0 ≤ k) (k5 : k ≤ 5) : F_Od_inningsOf (iI k) m = some (iI (inn k), m) := by
  unfold F_Od_inningsOf
  rcases (show k = 0 ∨ k = 1 ∨ k = 2 ∨ k = 3 ∨ k = 4 ∨ k = 5 by omega) with rfl | rfl | rfl | rfl | rfl | rfl <;> rfl
theorem inn_rng {k : Int} (k0 : 0 ≤ k) (k5 : k ≤ 5) : 0 ≤ inn k ∧ inn k ≤ 3 := by
  rcases (show k = 0 ∨ k = 1 ∨ k = 2 ∨ k = 3 ∨ k = 4 ∨ k = 5 by omega) with rfl | rfl | rfl | rfl | rfl | rfl <;> decide
theorem all_eq {n q : Int} {m : Mem} (h : gI m 3 0 = iI n) (n9 : n ≤ 9) (q0 : 0 ≤ q) (qn : q ≤ n) : F_Od_all (iI q) m = some (iL (four (n - q).toNat), m) := by
  unfold F_Od_all
  rw [h, lt_def, iI_sub]
  generalize hr : n - q = r
  rcases (show r = 0 ∨ r = 1 ∨ r = 2 ∨ r = 3 ∨ r = 4 ∨ r = 5 ∨ r = 6 ∨ r = 7 ∨ r = 8 ∨ r = 9 by omega) with h | h | h | h | h | h | h | h | h | h <;> subst h <;> rfl
theorem allTo_eq {n q : Int} {m : Mem} (b : Bool) (h : gI m 3 0 = iI n) (n9 : n ≤ 9) (q0 : 0 ≤ q) (qn : q ≤ n) : F_Od_allTo b (iI q) m = some (pk b (four (n - q).toNat, 0), m) := by
  unfold F_Od_allTo
  generalize hr : n - q = r
  cases b
  · rw [if_neg (by decide), bnd_some (all_eq h n9 q0 qn), hr]
    rcases (show r = 0 ∨ r = 1 ∨ r = 2 ∨ r = 3 ∨ r = 4 ∨ r = 5 ∨ r = 6 ∨ r = 7 ∨ r = 8 ∨ r = 9 by omega) with h | h | h | h | h | h | h | h | h | h <;> subst h <;> rfl
  · rw [if_pos rfl, bnd_some (all_eq h n9 q0 qn), hr]
    rcases (show r = 0 ∨ r = 1 ∨ r = 2 ∨ r = 3 ∨ r = 4 ∨ r = 5 ∨ r = 6 ∨ r = 7 ∨ r = 8 ∨ r = 9 by omega) with h | h | h | h | h | h | h | h | h | h <;> subst h <;> rfl
/-- what is known, by its mark -/
def kn (m : Mem) (i : Nat) : Nat := (gL m 15 i).toBitVec.toNat
def ix (p k o l : Int) : Nat := (((p * 6 + k) * 11 + o) * 325 + l + 162).toNat
def Memo (P : OP) (mk : Nat) (m : Mem) : Prop := ∀ p k o l : Int, 0 ≤ p → p < P.n → 0 ≤ k → k ≤ 5 → 0 ≤ o → o ≤ 10 → -162 ≤ l → l ≤ 162 → kn m (ix p k o l) / 1099511627776 = mk → pk (fb k) (V P (P.n - p).toNat k o (sg k l)) = iL (kn m (ix p k o l) % 1099511627776 : Nat)
/-- what a count of the odds leaves alone -/
def Same (m0 m : Mem) : Prop := ∀ o j, o ≠ 10 → o ≠ 11 → o ≠ 14 → o ≠ 15 → gI m o j = gI m0 o j ∧ gL m o j = gL m0 o j ∧ gZ m o j = gZ m0 o j
def OB (law : Option (List (Int × List Int))) (P : OP) (mg tx bc f dw : Int) (mk : Int64) (bl : Bool) (wd : Int) (m0 : Mem) : Prop := (GR m0 3 4 5 6 7 8 9 12 13 79 law P.n mg wd tx bc) ∧ (P = opOf (gI m0 79) law P.n mg f dw bl) ∧ (0 ≤ f) ∧ (f ≤ 1) ∧ (0 ≤ dw) ∧ (dw ≤ 100) ∧ (gI m0 2 4 = iI f) ∧ (gI m0 2 5 = iI dw) ∧ (gZ m0 2 6 = bl) ∧ (gL m0 2 2 = mk)
theorem OB.gr {law : Option (List (Int × List Int))} {P : OP} {mg tx bc f dw : Int} {mk : Int64} {bl : Bool} {wd : Int} {m0 : Mem} (h : OB law P mg tx bc f dw mk bl wd m0) : GR m0 3 4 5 6 7 8 9 12 13 79 law P.n mg wd tx bc := h.1
theorem OB.hP {law : Option (List (Int × List Int))} {P : OP} {mg tx bc f dw : Int} {mk : Int64} {bl : Bool} {wd : Int} {m0 : Mem} (h : OB law P mg tx bc f dw mk bl wd m0) : P = opOf (gI m0 79) law P.n mg f dw bl := h.2.1
theorem OB.f0 {law : Option (List (Int × List Int))} {P : OP} {mg tx bc f dw : Int} {mk : Int64} {bl : Bool} {wd : Int} {m0 : Mem} (h : OB law P mg tx bc f dw mk bl wd m0) : 0 ≤ f := h.2.2.1
theorem OB.f1 {law : Option (List (Int × List Int))} {P : OP} {mg tx bc f dw : Int} {mk : Int64} {bl : Bool} {wd : Int} {m0 : Mem} (h : OB law P mg tx bc f dw mk bl wd m0) : f ≤ 1 := h.2.2.2.1
theorem OB.d0 {law : Option (List (Int × List Int))} {P : OP} {mg tx bc f dw : Int} {mk : Int64} {bl : Bool} {wd : Int} {m0 : Mem} (h : OB law P mg tx bc f dw mk bl wd m0) : 0 ≤ dw := h.2.2.2.2.1
theorem OB.d1 {law : Option (List (Int × List Int))} {P : OP} {mg tx bc f dw : Int} {mk : Int64} {bl : Bool} {wd : Int} {m0 : Mem} (h : OB law P mg tx bc f dw mk bl wd m0) : dw ≤ 100 := h.2.2.2.2.2.1
theorem OB.hf {law : Option (List (Int × List Int))} {P : OP} {mg tx bc f dw : Int} {mk : Int64} {bl : Bool} {wd : Int} {m0 : Mem} (h : OB law P mg tx bc f dw mk bl wd m0) : gI m0 2 4 = iI f := h.2.2.2.2.2.2.1
theorem OB.hd {law : Option (List (Int × List Int))} {P : OP} {mg tx bc f dw : Int} {mk : Int64} {bl : Bool} {wd : Int} {m0 : Mem} (h : OB law P mg tx bc f dw mk bl wd m0) : gI m0 2 5 = iI dw := h.2.2.2.2.2.2.2.1
theorem OB.hb {law : Option (List (Int × List Int))} {P : OP} {mg tx bc f dw : Int} {mk : Int64} {bl : Bool} {wd : Int} {m0 : Mem} (h : OB law P mg tx bc f dw mk bl wd m0) : gZ m0 2 6 = bl := h.2.2.2.2.2.2.2.2.1
theorem OB.hm {law : Option (List (Int × List Int))} {P : OP} {mg tx bc f dw : Int} {mk : Int64} {bl : Bool} {wd : Int} {m0 : Mem} (h : OB law P mg tx bc f dw mk bl wd m0) : gL m0 2 2 = mk := h.2.2.2.2.2.2.2.2.2
theorem OB.mk {law : Option (List (Int × List Int))} {P : OP} {mg tx bc f dw : Int} {mk : Int64} {bl : Bool} {wd : Int} {m0 : Mem} (h : (GR m0 3 4 5 6 7 8 9 12 13 79 law P.n mg wd tx bc) ∧ (P = opOf (gI m0 79) law P.n mg f dw bl) ∧ (0 ≤ f) ∧ (f ≤ 1) ∧ (0 ≤ dw) ∧ (dw ≤ 100) ∧ (gI m0 2 4 = iI f) ∧ (gI m0 2 5 = iI dw) ∧ (gZ m0 2 6 = bl) ∧ (gL m0 2 2 = mk)) : OB law P mg tx bc f dw mk bl wd m0 := h
def OI (law : Option (List (Int × List Int))) (P : OP) (mk : Int64) (m0 m : Mem) : Prop := Same m0 m ∧ LevOK law m ∧ Memo P mk.toBitVec.toNat m ∧ ∀ i, i < 193050 → kn m i / 1099511627776 ≤ mk.toBitVec.toNat
theorem ix_lt {p k o l : Int} (h1 : 0 ≤ p) (h2 : p ≤ 8) (h3 : 0 ≤ k) (h4 : k ≤ 5) (h5 : 0 ≤ o) (h6 : o ≤ 10) (h7 : -162 ≤ l) (h8 : l ≤ 162) : ix p k o l < 193050 := by unfold ix; omega
theorem ix_inj {p k o l p' k' o' l' : Int} (h1 : 0 ≤ p) (h3 : 0 ≤ k) (h4 : k ≤ 5) (h5 : 0 ≤ o) (h6 : o ≤ 10) (h7 : -162 ≤ l) (h8 : l ≤ 162) (q1 : 0 ≤ p') (q3 : 0 ≤ k') (q4 : k' ≤ 5) (q5 : 0 ≤ o') (q6 : o' ≤ 10) (q7 : -162 ≤ l') (q8 : l' ≤ 162) (h : ix p k o l = ix p' k' o' l') : p = p' ∧ k = k' ∧ o = o' ∧ l = l' := by
  unfold ix at h
  omega
theorem same_gr {law : Option (List (Int × List Int))} {m0 m : Mem} {n mg dw tx bc : Int} (h : GR m0 3 4 5 6 7 8 9 12 13 79 law n mg dw tx bc) (hs : Same m0 m) : GR m 3 4 5 6 7 8 9 12 13 79 law n mg dw tx bc := by
  have h1 : ∀ o j, o ≠ 10 → o ≠ 11 → o ≠ 14 → o ≠ 15 → gI m o j = gI m0 o j := fun o j a b c d => (hs o j a b c d).1
  exact h.cg (fun j _ => h1 3 j (by decide) (by decide) (by decide) (by decide)) (fun j _ => h1 4 j (by decide) (by decide) (by decide) (by decide)) (fun j _ => h1 5 j (by decide) (by decide) (by decide) (by decide)) (fun j _ => h1 6 j (by decide) (by decide) (by decide) (by decide)) (fun j _ => h1 7 j (by decide) (by decide) (by decide) (by decide)) (fun j => h1 8 j (by decide) (by decide) (by decide) (by decide)) (fun j _ => h1 9 j (by decide) (by decide) (by decide) (by decide)) (h1 12 0 (by decide) (by decide) (by decide) (by decide)) (fun j _ => h1 13 j (by decide) (by decide) (by decide) (by decide)) (fun j _ _ => h1 79 j (by decide) (by decide) (by decide) (by decide))
theorem OI.lev {law : Option (List (Int × List Int))} {P : OP} {mg tx bc f dw : Int} {mk : Int64} {bl : Bool} {wd : Int} {m0 m : Mem} (hB : OB law P mg tx bc f dw mk bl wd m0) (h : OI law P mk m0 m) {s i b : Int} (s0 : 0 ≤ s) (s9 : s < 9) (i0 : 0 ≤ i) (i4 : i < 4) (b0 : 0 ≤ b) (b1 : b < 2) : ∃ m', F_Gr_levelOf (iI s) (iI i) (iI b) m = some (iI (levZ (gI m0 79) law s i b), m') ∧ OI law P mk m0 m' := by
  obtain ⟨h1, h2, h3, h4⟩ := h
  have hg := same_gr hB.gr h1
  obtain ⟨m', e1, e2, e3⟩ := Tlevel_eq hg.la hg.si hg.cl hg.ti h2 s0 s9 i0 i4 b0 b1
  have hfr := fr_Gr_levelOf _ _ _ _ _ _ e1
  have hw : gI m 79 = gI m0 79 := by funext j; exact (h1 79 j (by decide) (by decide) (by decide) (by decide)).1
  have h15 : ∀ i, gL m' 15 i = gL m 15 i := fun i => hfr.gL (by decide) (by simp)
  refine ⟨m', by rw [← hw]; exact e1, fun o j q1 q2 q3 q4 => ?_, e2, ?_, ?_⟩
  · obtain ⟨k1, k2, k3⟩ := h1 o j q1 q2 q3 q4
    obtain ⟨g1, g2, g3⟩ := hfr o j (by simp; omega) (by simp)
    exact ⟨g1.trans k1, g2.trans k2, g3.trans k3⟩
  · unfold Memo kn
    simp only [h15]
    exact h3
  · unfold kn
    simp only [h15]
    exact h4
end OCLS
