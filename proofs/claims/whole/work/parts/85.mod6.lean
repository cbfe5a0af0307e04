section MOD6
/-- what the layers from a session on leave -/
def LaSt (law : Option (List (Int × List Int))) (P : OP) (f : Int) (m0 : Mem) (p from' lead more : Int) (m : Mem) : Prop := SameM m0 m ∧ (p < P.n → LV law f p m) ∧ (∀ q : Int, q = p ∨ q = p + 1 → q < P.n → LY P m q (P.n - q).toNat (lead + more * (q - from')))
theorem L19_ok {law : Option (List (Int × List Int))} {P : OP} {mg tx bc f dw : Int} {bl : Bool} {wd : Int} {m0 : Mem} (hB : MB law P mg tx bc f dw bl wd m0) {from' lead more : Int} (fr0 : 0 ≤ from') (frn : from' ≤ P.n) (ld0 : 0 ≤ lead) (hmo : MO P more) (hW : lead + more * 8 ≤ 162) (hW2 : lead + more * (P.n - from') ≤ 162) : ∀ (d : Nat) (p : Int) (m : Mem) (nf : Nat), p = from' - 1 + d → p < P.n → d < nf → LaSt law P f m0 (p + 1) from' lead more m → Ok (F_M_layers_L19 (iI from') (iI lead) (iI more) nf (iI p) m) (fun _ m' => LaSt law P f m0 from' from' lead more m') := by
  have hn9 := hB.gr.n9
  have hm0 := hmo.1
  have hm9 := hmo.2.1
  intro d
  induction d with
  | zero =>
    intro p m nf hp pn hnf hI
    obtain ⟨nf, rfl⟩ : ∃ x, nf = x + 1 := ⟨nf - 1, by omega⟩
    rw [F_M_layers_L19]
    have hp' : p + 1 = from' := by omega
    rw [hp'] at hI
    refine ok_t ?_ (ok_some hI)
    rw [iI_lt (by omega) (by omega) (by omega) (by omega)]; omega
  | succ d ih =>
    intro p m nf hp pn hnf hI
    obtain ⟨nf, rfl⟩ : ∃ x, nf = x + 1 := ⟨nf - 1, by omega⟩
    rw [F_M_layers_L19]
    obtain ⟨q1, q2, q3⟩ := hI
    refine ok_f ?_ (ok_bnd (ok_of (lays_ok hB q1 (p := p) (by omega) (by omega)) (fun _ m1 hv => ?_)))
    · rw [iI_lt (by omega) (by omega) (by omega) (by omega)]; omega
    obtain ⟨v1, f1⟩ := hv
    obtain ⟨W, hWd⟩ : ∃ W, W = more * (p - from') := ⟨_, rfl⟩
    have w0 : 0 ≤ W := by rw [hWd]; exact Int.mul_nonneg hm0 (by omega)
    have w1 : W + more ≤ more * (P.n - from') := by
      rw [hWd, show more * (p - from') + more = more * (p - from' + 1) by rw [Int.mul_add, Int.mul_one]]
      exact Int.mul_le_mul_of_nonneg_left (by omega) hm0
    have w8 : W ≤ more * 8 := by rw [hWd]; exact Int.mul_le_mul_of_nonneg_left (by omega) hm0
    refine ok_lt (ok_ltk (fun k hk => ?_))
    rw [iI_sub, iI_mul, iI_add, ← hWd, show (162 : Int32) = iI 162 from rfl, mnI_iI (by omega) (by omega) (by omega) (by omega), show min 162 (lead + W) = lead + W by omega, lt5]
    obtain ⟨r, hr⟩ : ∃ r : Nat, P.n - (p + 1) = (r : Int) := ⟨(P.n - (p + 1)).toNat, by omega⟩
    have hf1 : SameM m0 m1 := Fr_tr q1 f1 (by decide) (by simp)
    refine L51_ok hB (L := lead + W + more) (Lp := lead + W) (by omega) hr (by omega) (by omega) hmo (by omega) k _ (fun m2 h2 => ?_) 6 5 m1 1000000 (by omega) (by omega) (by omega) ⟨hf1, v1, ?_, ?_⟩
    · rw [hk]
      refine ok_lt ?_
      rw [ltm1, iI_add, show p + -1 = p - 1 by omega]
      obtain ⟨a1, a2, a3, a4⟩ := h2
      refine ih (p - 1) m2 nf (by omega) (by omega) (by omega) ⟨a1, fun _ => ?_, fun q hq hqn => ?_⟩
      · rw [show p - 1 + 1 = p by omega]
        exact a2
      · rcases hq with hq | hq
        · rw [show q = p by omega, ← hWd, show (P.n - p).toNat = r + 1 by omega]
          exact fun j o l a b c d e g => a4 j o l a b c d e g (Or.inl (by omega))
        · have hr0 : 0 < r := by omega
          rw [show q = p + 1 by omega, show (P.n - (p + 1)).toNat = r by omega, show more * (p + 1 - from') = W + more by rw [hWd, show p + 1 - from' = p - from' + 1 by omega, Int.mul_add, Int.mul_one], ← Int.add_assoc]
          exact a3 hr0
    · intro hr0
      have h5 := q3 (p + 1) (Or.inl rfl) (by omega)
      rw [show (P.n - (p + 1)).toNat = r by omega, show more * (p + 1 - from') = W + more by rw [hWd, show p + 1 - from' = p - from' + 1 by omega, Int.mul_add, Int.mul_one], ← Int.add_assoc] at h5
      intro j o l a b c d e g
      rw [f1.gI (by decide) (by simp), f1.gI (by decide) (by simp)]
      exact h5 j o l a b c d e g
    · intro j' o' l' a b c d e g hh
      omega
theorem mostRuns_ok {m : Mem} {ro uo : Nat} (hr : ∀ j : Nat, j < 32 → ∃ z : Int, gI m 79 (23 + j) = iI z ∧ 0 ≤ z ∧ z ≤ 9) : ∃ z : Int, F_M_mostRuns m = some (iI z, m) ∧ 0 ≤ z ∧ z ≤ 9 ∧ ∀ k : Nat, k < 16 → (gI m 79 (23 + 2 * k)).toInt ≤ z := by
  have key : ∀ (d : Nat) (k : Nat) (z : Int) (nf : Nat), k + d = 16 → d < nf → 0 ≤ z → z ≤ 9 → (∀ i : Nat, i < k → (gI m 79 (23 + 2 * i)).toInt ≤ z) → ∃ z' : Int, F_M_mostRuns_L4 nf (iI z) (iI k) m = some (iI z', m) ∧ 0 ≤ z' ∧ z' ≤ 9 ∧ ∀ k : Nat, k < 16 → (gI m 79 (23 + 2 * k)).toInt ≤ z' := by
    intro d
    induction d with
    | zero =>
      intro k z nf hk hnf z0 z9 hi
      obtain ⟨nf, rfl⟩ : ∃ x, nf = x + 1 := ⟨nf - 1, by omega⟩
      rw [F_M_mostRuns_L4, if_pos (by rw [lt16, iI_le (by omega) (by omega) (by omega) (by omega)]; omega)]
      exact ⟨z, rfl, z0, z9, fun i q => hi i (by omega)⟩
    | succ d ih =>
      intro k z nf hk hnf z0 z9 hi
      obtain ⟨nf, rfl⟩ : ∃ x, nf = x + 1 := ⟨nf - 1, by omega⟩
      obtain ⟨y, ey, y0, y9⟩ := hr (2 * k) (by omega)
      rw [F_M_mostRuns_L4, if_neg (by rw [lt16, iI_le (by omega) (by omega) (by omega) (by omega)]; omega)]
      rw [lt2, show (23 : Int32) = iI 23 from rfl, iI_mul, iI_add, ckB_t (iI_inb (by omega) (by omega) (by omega)), lt_def, iI_idx (by omega) (by omega), show ((23 : Int) + 2 * (k : Int)).toNat = 23 + 2 * k by omega, ey, lt_def, lt_def, mxI_iI (by omega) (by omega) (by omega) (by omega), lt1, iI_add]
      obtain ⟨z', e', a, b, c⟩ := ih (k + 1) (max z y) nf (by omega) (by omega) (by omega) (by omega) (by
        intro i hi'
        by_cases hq : i = k
        · subst hq
          rw [ey, iI_toInt (by omega) (by omega)]
          omega
        · have := hi i (by omega)
          omega)
      exact ⟨z', e', a, b, c⟩
  unfold F_M_mostRuns
  exact key 16 0 0 1000000 (by omega) (by omega) (by omega) (by omega) (fun i q => by omega)
theorem MB.mo {law : Option (List (Int × List Int))} {P : OP} {mg tx bc f dw : Int} {bl : Bool} {wd : Int} {m0 : Mem} (hB : MB law P mg tx bc f dw bl wd m0) {z : Int} (z0 : 0 ≤ z) (z9 : z ≤ 9) (h : ∀ k : Nat, k < 16 → (gI m0 79 (23 + 2 * k)).toInt ≤ z) : MO P z := by
  refine ⟨z0, z9, fun p k s s0 s4 => ?_⟩
  have h1 : 0 ≤ levZ (gI m0 79) law p (inn k) (btK f k) ∧ levZ (gI m0 79) law p (inn k) (btK f k) ≤ 3 := levZ_rng hB.gr.la.okl
  have h2 : P.R p k s = if rainB (gI m0 79) p = true then 0 else (gI m0 79 (23 + 2 * (4 * levZ (gI m0 79) law p (inn k) (btK f k) + s)).toNat).toInt := by rw [hB.hP]; rfl
  rw [h2]
  have h3 := h (4 * levZ (gI m0 79) law p (inn k) (btK f k) + s).toNat (by omega)
  rw [show 23 + 2 * (4 * levZ (gI m0 79) law p (inn k) (btK f k) + s).toNat = (23 + 2 * (4 * levZ (gI m0 79) law p (inn k) (btK f k) + s)).toNat by omega] at h3
  split
  · exact z0
  · exact h3
theorem layers_ok {law : Option (List (Int × List Int))} {P : OP} {mg tx bc f dw : Int} {bl : Bool} {wd : Int} {m : Mem} (hB : MB law P mg tx bc f dw bl wd (sI m 78 20 (iI f))) {from' lead : Int} (fr0 : 0 ≤ from') (frn : from' ≤ P.n) (ld0 : 0 ≤ lead) (hW : lead + 72 ≤ 162) (hW2 : lead + 9 * (P.n - from') ≤ 162) : ∃ more : Int, MO P more ∧ Ok (F_M_layers (iI f) (iI from') (iI lead) m) (fun _ m' => LaSt law P f (sI m 78 20 (iI f)) from' from' lead more m') ∧ F_M_mostRuns m = some (iI more, m) := by
  have hn9 := hB.gr.n9
  have hn1 := hB.gr.n1
  obtain ⟨more, e, z0, z9, hz⟩ := mostRuns_ok (m := sI m 78 20 (iI f)) (ro := 0) (uo := 0) hB.gr.slr
  have hmo := hB.mo z0 z9 hz
  obtain ⟨more2, e2, -, -, hz2⟩ := mostRuns_ok (m := m) (ro := 0) (uo := 0) hB.gr.slr
  have hw : more * (P.n - from') ≤ 9 * (P.n - from') := Int.mul_le_mul_of_nonneg_right z9 (by omega)
  have hwn : gI (sI m 78 20 (iI f)) 79 0 = iI P.n := hB.gr.wn
  refine ⟨more, hmo, ?_, ?_⟩
  · unfold F_M_layers
    refine ok_lt ?_
    rw [bnd_some e]
    unfold F_M_size
    rw [bnd_e, hwn, lt_def, lt1, iI_sub]
    refine L19_ok hB fr0 frn ld0 hmo (by omega) (by omega) (P.n - from').toNat (P.n - 1) _ 1000000 (by omega) (by omega) (by omega) ⟨Fr_rf, fun q => by omega, fun q hq hqn => by omega⟩
  · have key : ∀ (m : Mem) (nf : Nat) (a b : Int32), F_M_mostRuns_L4 nf a b (sI m 78 20 (iI f)) = (F_M_mostRuns_L4 nf a b m).map (fun x => (x.1, sI m 78 20 (iI f))) := by
      intro m nf
      induction nf with
      | zero => intro a b; rfl
      | succ nf ih =>
        intro a b
        rw [F_M_mostRuns_L4, F_M_mostRuns_L4]
        by_cases h : (16 : Int32) ≤ b
        · rw [if_pos h, if_pos h]; rfl
        · rw [if_neg h, if_neg h]
          cases inb (23 + 2 * b) 1972
          · rfl
          · rw [ckB_true, ckB_true, lt_def, lt_def, lt_def, lt_def, lt_def, lt_def, ih]
            rfl
    unfold F_M_mostRuns at e e2 ⊢
    rw [key, e2] at e
    have h5 : iI more2 = iI more := by
      have := Option.some.inj e
      exact (Prod.mk.inj this).1
    rw [e2, h5]
end MOD6
