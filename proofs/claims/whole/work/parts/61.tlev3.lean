section TLEV3
theorem Tlevel_eq {law : Option (List (Int × List Int))} {m : Mem} (h : LawRep law m 8 9 79) (hs : SidesRep m 4 5 79) (hc : gI m 3 1 = gI m 79 6) (ht : gI m 3 2 = gI m 79 7) (hL : LevOK law m) {s i b : Int} (s0 : 0 ≤ s) (s9 : s < 9) (i0 : 0 ≤ i) (i4 : i < 4) (b0 : 0 ≤ b) (b1 : b < 2) : ∃ m', F_Gr_levelOf (iI s) (iI i) (iI b) m = some (iI (levZ (gI m 79) law s i b), m') ∧ LevOK law m' ∧ ∀ o j, o ≠ 10 → o ≠ 11 → o ≠ 14 → gI m' o j = gI m o j := by
  obtain ⟨k, hk⟩ : ∃ k : Nat, k = (s * 8 + i * 2 + b).toNat := ⟨_, rfl⟩
  have hk72 : k < 72 := by omega
  have k1 : (k : Int) / 8 = s := by omega
  have k2 : (k : Int) / 2 % 4 = i := by omega
  have k3 : (k : Int) % 2 = b := by omega
  have hLk := hL k hk72
  rw [k1, k2, k3] at hLk
  have hst : ∀ (m1 : Mem) (v : Int), (∀ j, gI m1 14 j = gI m 14 j) → (∀ j, gI m1 79 j = gI m 79 j) → v = levZ (gI m 79) law s i b → LevOK law (sI m1 14 k (iI v)) := by
    intro m1 v f14 f79 hv q hq
    have e79 : gI (sI m1 14 k (iI v)) 79 = gI m 79 := by funext j; rw [gI_sI, if_neg (by omega), f79]
    rw [e79, gI_sI]
    by_cases hqk : q = k
    · subst hqk
      rw [if_pos ⟨rfl, rfl⟩, k1, k2, k3, hv]
      exact Or.inr rfl
    · rw [if_neg (by omega), f14]
      exact hL q hq
  by_cases hn : gI m 14 k = iI (-1)
  · match law, h, hL, hLk, hst with
    | none, h, hL, hLk, hst =>
      rw [hk] at hn
      refine ⟨_, levB s0 s9 i0 i4 b0 b1 hn h.2, ?_, fun o j _ _ h3 => by rw [gI_sI, if_neg (by omega)]⟩
      rw [← hk]
      exact hst m 1 (fun _ => rfl) (fun _ => rfl) rfl
    | some l, ⟨h1, h2, h3, h4, h5, h6, h7, h8, h9⟩, hL, hLk, hst =>
      rw [hk] at hn
      have hr := sumL_rng (fcW (gI m 79) s i b) l h2.2
      have h12 := h2.1
      obtain ⟨mm, hmm⟩ : ∃ mm, mm = sI (sI (sI (sI (sI (sI (sI (sI m 10 0 (iI s)) 10 1 (iI (s / 3))) 10 2 (iI i)) 10 3 (iI b)) 10 4 (gI m 4 b.toNat)) 10 5 (gI m 5 (1 - b).toNat)) 10 6 ((gI m 3 1 >>> (iI s &&& 31)) &&& 1)) 10 7 ((gI m 3 2 >>> (iI s &&& 31)) &&& 1) := ⟨_, rfl⟩
      have fmm : ∀ o j, o ≠ 10 → gI mm o j = gI m o j := fun o j ho => by rw [hmm]; simp [gI_sI, ho]
      obtain ⟨m1, e1, f1⟩ := hardness_eq (fcW (gI m 79) s i b) (fcW_bit _ s i b) l mm h2 (by rw [fmm 8 1 (by decide)]; exact h4) h5 (RowIs_congr (fun j => fmm 9 j (by decide)) h6) (by
        intro q hq
        rw [hmm]
        obtain ⟨a1, a2, a3, a4⟩ := hs
        rcases (show q = 0 ∨ q = 1 ∨ q = 2 ∨ q = 3 ∨ q = 4 ∨ q = 5 ∨ q = 6 ∨ q = 7 by omega) with rfl | rfl | rfl | rfl | rfl | rfl | rfl | rfl
        · rfl
        · rfl
        · rfl
        · rfl
        · rcases (show b = 0 ∨ b = 1 by omega) with rfl | rfl
          · exact a1
          · exact a2
        · rcases (show b = 0 ∨ b = 1 by omega) with rfl | rfl
          · exact a4
          · exact a3
        · show (gI m 3 1 >>> (iI s &&& 31)) &&& 1 = _
          rw [hc]
          rfl
        · show (gI m 3 2 >>> (iI s &&& 31)) &&& 1 = _
          rw [ht]
          rfl)
      refine ⟨_, levC s0 s9 i0 i4 b0 b1 hn (n := l.length) (by omega) (by omega) h3 hr.1 (by omega) (by rw [← hmm]; exact e1), ?_, fun o j o1 o2 o3 => by rw [gI_sI, if_neg (by omega), f1 o j o2, fmm o j o1]⟩
      rw [← hk]
      exact hst m1 _ (fun j => by rw [f1 14 j (by decide), fmm 14 j (by decide)]) (fun j => by rw [f1 79 j (by decide), fmm 79 j (by decide)]) rfl
  · have hv := hLk.resolve_left hn
    rw [hk] at hv
    have hrng := levZ_rng (w := gI m 79) (law := law) (s := s) (i := i) (b := b) (fun l hl => by subst hl; exact h.2.1)
    exact ⟨m, levA s0 s9 i0 i4 b0 b1 hrng.1 hrng.2 hv, hL, fun _ _ _ _ _ => rfl⟩
end TLEV3
