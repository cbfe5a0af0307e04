section LAWS
theorem cl_law (fact : Int → Int32) (hb : ∀ k : Int, k = 1006 ∨ k = 1007 → fact k = 0 ∨ fact k = 1) : ∀ (law : List (Int × List Int)) (i : Nat) (S : Int) (m : Mem) (nf size : Nat), (∀ x ∈ law, 0 ≤ x.1 ∧ x.1 ≤ 9 ∧ (x.2 = [] ∨ okT x.2 [])) → gI m 8 1 = iI size → size ≤ 400 → i + (codeL law).length ≤ size → RowIs m 9 i (codeL law) → (∀ k : Nat, k < 8 → gI m 10 k = fact (1000 + k)) →
    ∃ m', F_Lw_hardness_L6 (nf + (codeL law).length) (iI S) (iI 0) (iI i) m = F_Lw_hardness_L6 nf (iI (S + sumL fact law)) (iI 0) (iI (i + (codeL law).length : Nat)) m' ∧ ∀ o j, o ≠ 11 → gI m' o j = gI m o j
  | [], i, S, m, nf, size, _, _, _, _, _, _ => ⟨m, by simp [codeL, sumL], fun _ _ _ => rfl⟩
  | x :: r, i, S, m, nf, size, hok, hsz, h4, hi, hr, hf => by
    obtain ⟨x1, x2, x3⟩ := hok x List.mem_cons_self
    obtain ⟨h, hh⟩ : ∃ h : Nat, x.1 = h := ⟨x.1.toNat, by omega⟩
    obtain ⟨seg, hseg⟩ : ∃ seg, seg = if x.2 = [] then [1] else x.2 := ⟨_, rfl⟩
    have hcode : codeL (x :: r) = seg ++ (2000 + x.1) :: codeL r := by rw [hseg]; rfl
    rw [hcode] at hi hr ⊢
    rw [RowIs_app] at hr
    obtain ⟨r1, r2, r3⟩ := hr
    rw [List.length_append, List.length_cons] at hi ⊢
    -- the condition
    have hcond : ∃ m1 v, F_Lw_hardness_L6 (nf + (codeL r).length + 1 + seg.length) (iI S) (iI 0) (iI i) m = F_Lw_hardness_L6 (nf + (codeL r).length + 1) (iI S) (iI 1) (iI (i + seg.length : Nat)) m1 ∧ (v = 0 ∨ v = 1) ∧ (v = 1 ↔ holdsL fact x.2 = true) ∧ gI m1 11 0 = v ∧ ∀ o j, o ≠ 11 → gI m1 o j = gI m o j := by
      by_cases hnil : x.2 = []
      · rw [if_pos hnil] at hseg
        subst hseg
        obtain ⟨m1, e1, s1, f1⟩ := cl_step fact 1 i (iI S) [] m (nf + (codeL r).length + 1) size hsz h4 (by simp at hi; omega) r1.1 (by omega) (by omega) trivial (by decide) (Or.inl (by omega)) hf
        refine ⟨m1, 1, e1, Or.inr rfl, ?_, s1.1, f1⟩
        simp [holdsL, hnil]
      · rw [if_neg hnil] at hseg
        subst hseg
        obtain ⟨m1, v, e1, e2, e3, e4, f1⟩ := cl_run fact x.2 [] i (iI S) [] m (nf + (codeL r).length + 1) size hsz h4 (by omega) r1 trivial trivial (x3.resolve_left hnil) hf hb
        refine ⟨m1, v, e1, e3, ?_, e4, f1⟩
        simp [holdsL, hnil, e2]
    obtain ⟨m1, v, e1, v1, v2, v3, f1⟩ := hcond
    have hline : F_Lw_hardness_L6 (nf + (codeL r).length + 1) (iI S) (iI 1) (iI (i + seg.length : Nat)) m1 = F_Lw_hardness_L6 (nf + (codeL r).length) (iI (S + (if holdsL fact x.2 = true then x.1 else 0))) (iI 0) (iI (((i + seg.length : Nat) : Int) + 1)) m1 := by
      have hc : gI m1 9 (i + seg.length) = iI (2000 + h) := by rw [f1 9 _ (by decide), ← hh]; exact r2
      have hsz1 : gI m1 8 1 = iI size := by rw [f1 8 1 (by decide)]; exact hsz
      rcases v1 with rfl | rfl
      · rw [if_neg (fun e => absurd (v2.mpr e) (by decide))]
        exact cl_line0 h _ S m1 _ size hsz1 h4 (by omega) (by omega) hc v3
      · rw [if_pos (v2.mp rfl), hh]
        exact cl_line1 h _ S m1 _ size hsz1 h4 (by omega) (by omega) hc v3
    obtain ⟨m2, e2, f2⟩ := cl_law fact hb r (i + seg.length + 1) (S + (if holdsL fact x.2 = true then x.1 else 0)) m1 nf size (fun y hy => hok y (List.mem_cons_of_mem _ hy)) (by rw [f1 8 1 (by decide)]; exact hsz) h4 (by omega) (RowIs_congr (fun j => f1 9 j (by decide)) r3) (fun k hk => by rw [f1 10 k (by decide)]; exact hf k hk)
    refine ⟨m2, ?_, fun o j ho => (f2 o j ho).trans (f1 o j ho)⟩
    rw [show nf + (seg.length + ((codeL r).length + 1)) = nf + (codeL r).length + 1 + seg.length by omega, e1, hline]
    rw [show (((i + seg.length : Nat) : Int) + 1) = ((i + seg.length + 1 : Nat) : Int) by omega, e2]
    rw [show S + sumL fact (x :: r) = S + (if holdsL fact x.2 = true then x.1 else 0) + sumL fact r by simp only [sumL]; omega, show i + (seg.length + ((codeL r).length + 1)) = i + seg.length + 1 + (codeL r).length by omega]
theorem hardness_eq (fact : Int → Int32) (hb : ∀ k : Int, k = 1006 ∨ k = 1007 → fact k = 0 ∨ fact k = 1) (law : List (Int × List Int)) (m : Mem) (hok : okLaw law) (hsz : gI m 8 1 = iI (codeL law).length) (h4 : (codeL law).length ≤ 400) (hr : RowIs m 9 0 (codeL law)) (hf : ∀ k : Nat, k < 8 → gI m 10 k = fact (1000 + k)) : ∃ m', F_Lw_hardness m = some (iI (sumL fact law), m') ∧ ∀ o j, o ≠ 11 → gI m' o j = gI m o j := by
  obtain ⟨m1, e1, f1⟩ := cl_law fact hb law 0 0 m (1000000 - (codeL law).length) _ hok.2 hsz h4 (by omega) hr hf
  refine ⟨m1, ?_, f1⟩
  unfold F_Lw_hardness
  have hn : (1000000 : Nat) = 1000000 - (codeL law).length + (codeL law).length := by omega
  rw [hn]
  refine (show _ = _ from e1).trans ?_
  rw [show 1000000 - (codeL law).length = (999999 - (codeL law).length) + 1 by omega, F_Lw_hardness_L6]
  rw [if_pos (by rw [f1 8 1 (by decide), hsz]; simp), Int.zero_add]
end LAWS
