section CUT
/-- where the things begin, and where they end -/
def Bq (b : Nat → Int) (T : Nat) : Nat → Nat
  | 0 => blk b T 0
  | j + 1 => blk b T (if Bq b T j < T then tnd b T (Bq b T j) else T)
def Eq1 (b : Nat → Int) (T j : Nat) : Nat := if Bq b T j < T then tnd b T (Bq b T j) else T
theorem Bq_s (b : Nat → Int) (T j : Nat) : Bq b T (j + 1) = blk b T (Eq1 b T j) := rfl
theorem Bq_ex (b : Nat → Int) (T : Nat) : ∀ j, ∃ x, x ≤ T ∧ Bq b T j = blk b T x
  | 0 => ⟨0, by omega, rfl⟩
  | j + 1 => by
    refine ⟨Eq1 b T j, ?_, Bq_s b T j⟩
    unfold Eq1
    split
    · rename_i h
      exact (tnd_gt h).2
    · exact Nat.le_refl _
theorem Bq_nb {b : Nat → Int} {T j : Nat} (h : Bq b T j < T) : b (Bq b T j) ≠ 32 := by
  obtain ⟨x, hx, e⟩ := Bq_ex b T j
  rw [e] at h ⊢
  intro q
  exact sc_end (p := isB) h (isB_e.2 q)
theorem sc_w (b : Nat → Int) (T q : Nat) : sc (fun x => decide (kdB x = 0)) b T q = wrd b T q := by
  have e : (fun x => decide (kdB x = 0)) = isW := by
    funext x
    rw [Bool.eq_iff_iff, decide_eq_true_eq]
    exact kdB_w
  rw [e]
  rfl
theorem sc_d (b : Nat → Int) (T q : Nat) : sc (fun x => decide (kdB x = 1)) b T q = dig b T q := by
  have e : (fun x => decide (kdB x = 1)) = isD := by
    funext x
    rw [Bool.eq_iff_iff, decide_eq_true_eq]
    exact kdB_d
  rw [e]
  rfl
/-- where the class's inner loop ends -/
theorem tnd_e {b : Nat → Int} {T q : Nat} (h : q < T) : tnd b T q = if kdB (b q) = 2 then q + 1 else sc (fun x => decide (kdB x = kdB (b q))) b T (q + 1) := by
  unfold tnd
  by_cases h1 : isW (b q) = true
  · have e := kdB_w.2 h1
    rw [if_pos h1, e, if_neg (by omega), sc_w]
    exact sc_t h h1
  · rw [if_neg h1]
    by_cases h2 : isD (b q) = true
    · have e := kdB_d.2 h2
      rw [if_pos h2, e, if_neg (by omega), sc_d]
      exact sc_t h h2
    · have h3 : kdB (b q) ≠ 0 := fun w => h1 (kdB_w.1 w)
      have h4 : kdB (b q) ≠ 1 := fun w => h2 (kdB_d.1 w)
      have := kdB_rng (b q)
      rw [if_neg h2, if_pos (by omega)]
theorem addThingL_eq {m : Mem} {k : Nat} (h : gI m 52 4 = iI k) (hk : k ≤ 400) (a1 a2 a3 : Int32) : F_Tx_addThingL a1 a2 a3 m = some ((), sI (sI (sI (sI m 54 k a1) 55 k a2) 56 k a3) 52 4 (iI (k + 1 : Nat))) := by
  unfold F_Tx_addThingL
  have e1 : gI (sI m 54 k a1) 52 4 = iI k := by rw [gI_sI, if_neg (fun q => absurd q.1 (by decide))]; exact h
  have e2 : gI (sI (sI m 54 k a1) 55 k a2) 52 4 = iI k := by rw [gI_sI, if_neg (fun q => absurd q.1 (by decide))]; exact e1
  have e3 : gI (sI (sI (sI m 54 k a1) 55 k a2) 56 k a3) 52 4 = iI k := by rw [gI_sI, if_neg (fun q => absurd q.1 (by decide))]; exact e2
  rw [h, if_neg (by rw [lt0, iI_lt (by omega) (by omega) (by omega) (by omega)]; omega), if_neg (by rw [lt400, iI_lt (by omega) (by omega) (by omega) (by omega)]; omega), ckB_t (iI_inb (by omega) (by omega) (by omega)), lt_def, iI_idx (by omega) (by omega), Int.toNat_natCast, e1, ckB_t (iI_inb (by omega) (by omega) (by omega)), lt_def, iI_idx (by omega) (by omega), Int.toNat_natCast, e2, ckB_t (iI_inb (by omega) (by omega) (by omega)), lt_def, iI_idx (by omega) (by omega), Int.toNat_natCast, e3, lt_def, lt1, iI_add]
  rfl
theorem cutL34L {b : Nat → Int} {T : Nat} {c : Int} (c0 : 0 ≤ c) (c1 : c ≤ 1) (kk : Int32 → Mem → Option (Unit × Mem)) : ∀ (d e nf : Nat) (z : Mem), T - e = d → e ≤ T → d < nf → BT z b T → (∀ i, i < e → gI z 53 i = iI (b i)) → ∃ z', F_Tx_cutL_L34 (iI T) (iI c) kk nf (iI e) z = kk (iI (sc (fun x => decide (kdB x = c)) b T e)) z' ∧ (∀ i, i < sc (fun x => decide (kdB x = c)) b T e → gI z' 53 i = iI (b i)) ∧ Fr [53] [] z z' := by
  intro d
  induction d with
  | zero =>
    intro e nf z hd he hnf h hb
    obtain ⟨nf, rfl⟩ : ∃ x, nf = x + 1 := ⟨nf - 1, by omega⟩
    have h4 := h.1
    rw [sc_T (by omega)]
    refine ⟨z, ?_, hb, Fr_rf⟩
    rw [F_Tx_cutL_L34, if_neg (by rw [show (2 : Int32) = iI 2 from rfl, iI_eq (by omega) (by omega) (by omega) (by omega)]; omega), if_pos (by rw [iI_le (by omega) (by omega) (by omega) (by omega)]; omega)]
  | succ d ih =>
    intro e nf z hd he hnf h hb
    obtain ⟨nf, rfl⟩ : ∃ x, nf = x + 1 := ⟨nf - 1, by omega⟩
    have h4 := h.1
    obtain ⟨g1, g2, g3⟩ := h.2 e (by omega)
    have hr := kdB_rng (b e)
    rw [F_Tx_cutL_L34, if_neg (by rw [show (2 : Int32) = iI 2 from rfl, iI_eq (by omega) (by omega) (by omega) (by omega)]; omega), if_neg (by rw [iI_le (by omega) (by omega) (by omega) (by omega)]; omega), ckB_t (iI_inb (by omega) (by omega) (by omega)), lt_def, iI_idx (by omega) (by omega), Int.toNat_natCast, g1, bnd_some (kindOf_eq g2 g3 z)]
    by_cases hk : kdB (b e) = c
    · obtain ⟨z', e1, e2, e3⟩ := ih (e + 1) nf (sI z 53 e (iI (b e))) (by omega) (by omega) (by omega) (h.cg (fun j => by rw [gI_sI, if_neg (fun q => absurd q.1 (by decide))])) (fun i hi => by
        rw [gI_sI]
        by_cases hie : i = e
        · rw [if_pos ⟨rfl, hie⟩, hie]
        · rw [if_neg (fun q => hie q.2)]
          exact hb i (by omega))
      refine ⟨z', ?_, ?_, Fr_tr (Fr_sI rfl Fr_rf (by simp)) e3 (by simp) (by simp)⟩
      · rw [if_pos (by rw [hk]), ckB_t (iI_inb (by omega) (by omega) (by omega)), lt_def, g1, ckB_t (iI_inb (by omega) (by omega) (by omega)), lt_def, lt_def, lt1, iI_add, sc_t (by omega) (decide_eq_true hk)]
        exact e1
      · rw [sc_t (by omega) (decide_eq_true hk)]
        exact e2
    · rw [sc_f (by rw [decide_eq_true_eq]; exact hk)]
      refine ⟨z, ?_, hb, Fr_rf⟩
      rw [if_neg (by rw [iI_eq (by omega) (by omega) (by omega) (by omega)]; exact hk)]
def CIL (b : Nat → Int) (T p k : Nat) (z : Mem) : Prop := p ≤ T ∧ k ≤ p ∧ blk b T p = Bq b T k ∧ (∀ j, j < k → Bq b T j < T) ∧ gI z 52 4 = iI k ∧ (∀ i, i < p → gI z 53 i = iI (b i)) ∧ (∀ j, j < k → gI z 54 j = iI (kdB (b (Bq b T j))) ∧ gI z 55 j = iI (Bq b T j) ∧ gI z 56 j = iI (Eq1 b T j)) ∧ BT z b T
theorem cutL7L {b : Nat → Int} {T : Nat} (kk : Mem → Option (Unit × Mem)) : ∀ (d p k nf : Nat) (z : Mem), T - p ≤ d → d < nf → CIL b T p k z → ∃ z' K, F_Tx_cutL_L7 (iI T) kk nf (iI p) z = kk z' ∧ CIL b T T K z' := by
  obtain ⟨N, hN⟩ : ∃ N : Nat, N = 1000000 := ⟨_, rfl⟩
  intro d
  induction d with
  | zero =>
    intro p k nf z hd hnf h
    obtain ⟨nf, rfl⟩ : ∃ x, nf = x + 1 := ⟨nf - 1, by omega⟩
    have h4 := h.2.2.2.2.2.2.2.1
    have hp := h.1
    have e : p = T := by omega
    subst e
    exact ⟨z, k, by rw [F_Tx_cutL_L7, if_pos (by rw [iI_le (by omega) (by omega) (by omega) (by omega)]; omega)], h⟩
  | succ d ih =>
    intro p k nf z hd hnf h
    obtain ⟨nf, rfl⟩ : ∃ x, nf = x + 1 := ⟨nf - 1, by omega⟩
    obtain ⟨hp, hkp, hbl, hlt, hth, hby, htk, hBT⟩ := id h
    have h4 := hBT.1
    by_cases hpT : p < T
    · obtain ⟨g1, g2, g3⟩ := hBT.2 p hpT
      have hr := kdB_rng (b p)
      obtain ⟨z1, hz1⟩ : ∃ x, x = sI z 53 p (iI (b p)) := ⟨_, rfl⟩
      have f1 : Fr [53] [] z z1 := Fr_sI hz1 Fr_rf (by simp)
      have hBT1 : BT z1 b T := hBT.cg (fun j => f1.gI (by simp) (by simp))
      have hby1 : ∀ i, i < p + 1 → gI z1 53 i = iI (b i) := by
        intro i hi
        rw [hz1, gI_sI]
        by_cases hie : i = p
        · rw [if_pos ⟨rfl, hie⟩, hie]
        · rw [if_neg (fun q => hie q.2)]
          exact hby i (by omega)
      have hg1 : gI z1 1 p = iI (b p) := (hBT1.2 p hpT).1
      rw [F_Tx_cutL_L7, if_neg (by rw [iI_le (by omega) (by omega) (by omega) (by omega)]; omega), ckB_t (iI_inb (by omega) (by omega) (by omega)), lt_def, iI_idx (by omega) (by omega), Int.toNat_natCast, g1, ckB_t (iI_inb (by omega) (by omega) (by omega)), lt_def, ← hz1, lt_def, ckB_t (iI_inb (by omega) (by omega) (by omega)), lt_def, hg1, bnd_some (kindOf_eq g2 g3 z1), ← hN]
      obtain ⟨k75, h75⟩ : ∃ x : Int32 → Mem → Option (Unit × Mem), x = fun (xq21 : Int32) (mq20 : Mem) => ((ckB (inb (iI p) 400) <| lt (gI mq20 1 p) fun xq23 => lt (fun (mq24 : Mem) => ((F_Tx_cutL_L7 (iI T) kk nf xq21 mq24) : Option (Unit × Mem))) fun k92_24 => if xq23 = (32 : Int32) then (k92_24 mq20) else (bnd (F_Tx_addThingL (iI (kdB (b p))) (iI p) xq21 mq20) fun _ mq25 => k92_24 mq25)) : Option (Unit × Mem)) := ⟨_, rfl⟩
      rw [lt_def, ← h75, lt1, iI_add, show ((p : Nat) : Int) + 1 = ((p + 1 : Nat) : Int) by omega]
      -- the thing's end
      have hend : ∃ z2, F_Tx_cutL_L34 (iI T) (iI (kdB (b p))) k75 N (iI (p + 1 : Nat)) z1 = k75 (iI (tnd b T p)) z2 ∧ (∀ i, i < tnd b T p → gI z2 53 i = iI (b i)) ∧ Fr [53] [] z1 z2 := by
        rw [tnd_e hpT]
        by_cases h2 : kdB (b p) = 2
        · rw [if_pos h2]
          refine ⟨z1, ?_, hby1, Fr_rf⟩
          obtain ⟨N', rfl⟩ : ∃ x, N = x + 1 := ⟨999999, by omega⟩
          rw [F_Tx_cutL_L34, if_pos (by rw [h2]; rfl)]
        · rw [if_neg h2]
          exact cutL34L hr.1 (by omega) k75 (T - (p + 1)) (p + 1) N z1 rfl (by omega) (by omega) hBT1 hby1
      obtain ⟨z2, e2, hby2, f2⟩ := hend
      rw [e2, h75]
      dsimp only
      have htn := tnd_gt (b := b) hpT
      have hBT2 : BT z2 b T := hBT1.cg (fun j => f2.gI (by simp) (by simp))
      have f12 : Fr [53] [] z z2 := Fr_tr f1 f2 (by simp) (by simp)
      rw [ckB_t (iI_inb (by omega) (by omega) (by omega)), lt_def, (hBT2.2 p hpT).1, lt_def]
      by_cases h32 : b p = 32
      · have hte : tnd b T p = p + 1 := by
          rw [tnd_e hpT, if_pos (by rw [h32]; rfl)]
        rw [if_pos (by rw [h32]; rfl), hte]
        refine ih (p + 1) k nf z2 (by omega) (by omega) ⟨by omega, by omega, ?_, hlt, ?_, fun i hi => hby2 i (by omega), fun j hj => ?_, hBT2⟩
        · rw [← hbl]
          exact (sc_t hpT (isB_e.2 h32)).symm
        · rw [f12.gI (by simp) (by simp)]; exact hth
        · rw [f12.gI (by simp) (by simp), f12.gI (by simp) (by simp), f12.gI (by simp) (by simp)]; exact htk j hj
      · have hBk : Bq b T k = p := by
          rw [← hbl]
          exact sc_f (fun w => h32 (isB_e.1 w))
        have hEk : Eq1 b T k = tnd b T p := by
          unfold Eq1
          rw [hBk, if_pos hpT]
        have hth2 : gI z2 52 4 = iI k := by rw [f12.gI (by simp) (by simp)]; exact hth
        rw [if_neg (by rw [show (32 : Int32) = iI 32 from rfl, iI_eq (by omega) (by omega) (by omega) (by omega)]; exact h32), bnd_some (addThingL_eq hth2 (by omega) _ _ _)]
        have f3 : Fr [54, 55, 56] [(52, 4)] z2 (sI (sI (sI (sI z2 54 k (iI (kdB (b p)))) 55 k (iI p)) 56 k (iI (tnd b T p))) 52 4 (iI (k + 1 : Nat))) := Fr_sI rfl (Fr_sI rfl (Fr_sI rfl (Fr_sI rfl Fr_rf (by simp)) (by simp)) (by simp)) (by simp)
        obtain ⟨z3, hz3⟩ : ∃ x, x = sI (sI (sI (sI z2 54 k (iI (kdB (b p)))) 55 k (iI p)) 56 k (iI (tnd b T p))) 52 4 (iI (k + 1 : Nat)) := ⟨_, rfl⟩
        rw [← hz3] at f3 ⊢
        have c2 : ∀ j, gI z3 54 j = if j = k then iI (kdB (b p)) else gI z2 54 j := by
          intro j
          rw [hz3]
          by_cases hj : j = k
          · rw [if_pos hj, gI_sI, if_neg (fun q => absurd q.1 (by decide)), gI_sI, if_neg (fun q => absurd q.1 (by decide)), gI_sI, if_neg (fun q => absurd q.1 (by decide)), gI_sI, if_pos ⟨rfl, hj⟩]
          · rw [if_neg hj, gI_sI, if_neg (fun q => absurd q.1 (by decide)), gI_sI, if_neg (fun q => absurd q.1 (by decide)), gI_sI, if_neg (fun q => absurd q.1 (by decide)), gI_sI, if_neg (fun q => hj q.2)]
        have c3 : ∀ j, gI z3 55 j = if j = k then iI p else gI z2 55 j := by
          intro j
          rw [hz3]
          by_cases hj : j = k
          · rw [if_pos hj, gI_sI, if_neg (fun q => absurd q.1 (by decide)), gI_sI, if_neg (fun q => absurd q.1 (by decide)), gI_sI, if_pos ⟨rfl, hj⟩]
          · rw [if_neg hj, gI_sI, if_neg (fun q => absurd q.1 (by decide)), gI_sI, if_neg (fun q => absurd q.1 (by decide)), gI_sI, if_neg (fun q => hj q.2), gI_sI, if_neg (fun q => absurd q.1 (by decide))]
        have c4 : ∀ j, gI z3 56 j = if j = k then iI (tnd b T p) else gI z2 56 j := by
          intro j
          rw [hz3]
          by_cases hj : j = k
          · rw [if_pos hj, gI_sI, if_neg (fun q => absurd q.1 (by decide)), gI_sI, if_pos ⟨rfl, hj⟩]
          · rw [if_neg hj, gI_sI, if_neg (fun q => absurd q.1 (by decide)), gI_sI, if_neg (fun q => hj q.2), gI_sI, if_neg (fun q => absurd q.1 (by decide)), gI_sI, if_neg (fun q => absurd q.1 (by decide))]
        refine ih (tnd b T p) (k + 1) nf z3 (by omega) (by omega) ⟨htn.2, by omega, ?_, fun j hj => ?_, by rw [hz3, gI_sI, if_pos ⟨rfl, rfl⟩], fun i hi => ?_, fun j hj => ?_, hBT2.cg (fun j => f3.gI (by simp) (by simp))⟩
        · rw [Bq_s, hEk]
        · by_cases hjk : j = k
          · rw [hjk, hBk]; exact hpT
          · exact hlt j (by omega)
        · rw [f3.gI (by simp) (by simp)]
          exact hby2 i hi
        · rw [c2, c3, c4]
          by_cases hjk : j = k
          · rw [if_pos hjk, if_pos hjk, if_pos hjk, hjk, hBk, hEk]
            exact ⟨rfl, rfl, rfl⟩
          · rw [if_neg hjk, if_neg hjk, if_neg hjk, f12.gI (by simp) (by simp), f12.gI (by simp) (by simp), f12.gI (by simp) (by simp)]
            exact htk j (by omega)
    · have e : p = T := by omega
      subst e
      exact ⟨z, k, by rw [F_Tx_cutL_L7, if_pos (by rw [iI_le (by omega) (by omega) (by omega) (by omega)]; omega)], h⟩
/-- a text is cut into its things -/
theorem cutL_ok {m : Mem} {b : Nat → Int} {T : Nat} (h : BT m b T) : ∃ m' K, F_Tx_cutL (iI T) m = some ((), m') ∧ TF b T K (Bq b T) (Eq1 b T) ∧ TML m' b T K (Bq b T) (Eq1 b T) := by
  obtain ⟨N, hN⟩ : ∃ N : Nat, N = 1000000 := ⟨_, rfl⟩
  have h4 := h.1
  obtain ⟨kk, hkk⟩ : ∃ x : Mem → Option (Unit × Mem), x = fun (mq2 : Mem) => ((bnd (F_Tx_addThingL (3 : Int32) (mxI (0 : Int32) (iI T)) (mxI (0 : Int32) (iI T)) mq2) fun _ mq3 => some ((), mq3)) : Option (Unit × Mem)) := ⟨_, rfl⟩
  obtain ⟨m1, K, e1, c1, c2, c3, c4, c5, c6, c7, c8⟩ := cutL7L (b := b) (T := T) kk T 0 0 N (sI m 52 4 (iI (0 : Nat))) (by omega) (by omega) ⟨by omega, by omega, rfl, fun j hj => absurd hj (by omega), by rw [gI_sI, if_pos ⟨rfl, rfl⟩], fun i hi => absurd hi (by omega), fun j hj => absurd hj (by omega), h.cg (fun j => by rw [gI_sI, if_neg (fun q => absurd q.1 (by decide))])⟩
  have hbT : blk b T T = T := sc_T (Nat.le_refl _)
  have hBK : Bq b T K = T := by rw [← c3, hbT]
  have hEK : Eq1 b T K = T := by
    unfold Eq1
    rw [hBK, if_neg (by omega)]
  have hx : mxI (0 : Int32) (iI T) = iI T := by rw [lt0, mxI_iI (by omega) (by omega) (by omega) (by omega), show max 0 (T : Int) = T by omega]
  obtain ⟨m2, hm2⟩ : ∃ x, x = sI (sI (sI (sI m1 54 K (3 : Int32)) 55 K (iI T)) 56 K (iI T)) 52 4 (iI (K + 1 : Nat)) := ⟨_, rfl⟩
  have f3 : Fr [54, 55, 56] [(52, 4)] m1 m2 := Fr_sI hm2 (Fr_sI rfl (Fr_sI rfl (Fr_sI rfl Fr_rf (by simp)) (by simp)) (by simp)) (by simp)
  refine ⟨m2, K, ?_, ?_, ?_⟩
  · unfold F_Tx_cutL
    rw [← hN, lt_def, lt_def, ← hkk]
    refine (show _ = _ from e1).trans ?_
    rw [hkk]
    dsimp only
    rw [hx, bnd_some (addThingL_eq c5 (by omega) _ _ _), hm2]
  · refine TF.mk ⟨h4, c2, fun k hk => ⟨(h.2 k hk).2.1, (h.2 k hk).2.2⟩, rfl, hBK, hEK, c4, fun j hj => Bq_nb (c4 j hj), fun j hj => ?_, fun j hj => Bq_s b T j⟩
    unfold Eq1
    rw [if_pos (c4 j hj)]
  · refine TML.mk ⟨by rw [hm2, gI_sI, if_pos ⟨rfl, rfl⟩], fun k hk => by rw [f3.gI (by simp) (by simp)]; exact c6 k hk, fun j hj => ?_, ?_, fun j hj => ?_, fun j hj => ?_⟩
    · rw [hm2, gI_sI, if_neg (fun q => absurd q.1 (by decide)), gI_sI, if_neg (fun q => absurd q.1 (by decide)), gI_sI, if_neg (fun q => absurd q.1 (by decide)), gI_sI, if_neg (fun q => by have := q.2; omega)]
      exact (c7 j hj).1
    · rw [hm2, gI_sI, if_neg (fun q => absurd q.1 (by decide)), gI_sI, if_neg (fun q => absurd q.1 (by decide)), gI_sI, if_neg (fun q => absurd q.1 (by decide)), gI_sI, if_pos ⟨rfl, rfl⟩]
      rfl
    · rw [hm2, gI_sI, if_neg (fun q => absurd q.1 (by decide)), gI_sI, if_neg (fun q => absurd q.1 (by decide)), gI_sI]
      by_cases hjk : j = K
      · rw [if_pos ⟨rfl, hjk⟩, hjk, hBK]
      · rw [if_neg (fun q => hjk q.2), gI_sI, if_neg (fun q => absurd q.1 (by decide))]
        exact (c7 j (by omega)).2.1
    · rw [hm2, gI_sI, if_neg (fun q => absurd q.1 (by decide)), gI_sI]
      by_cases hjk : j = K
      · rw [if_pos ⟨rfl, hjk⟩, hjk, hEK]
      · rw [if_neg (fun q => hjk q.2), gI_sI, if_neg (fun q => absurd q.1 (by decide)), gI_sI, if_neg (fun q => absurd q.1 (by decide))]
        exact (c7 j (by omega)).2.2
theorem addThingG_eq {m : Mem} {k : Nat} (h : gI m 46 4 = iI k) (hk : k ≤ 400) (a1 a2 a3 : Int32) : F_Tx_addThingG a1 a2 a3 m = some ((), sI (sI (sI (sI m 48 k a1) 49 k a2) 50 k a3) 46 4 (iI (k + 1 : Nat))) := by
  unfold F_Tx_addThingG
  have e1 : gI (sI m 48 k a1) 46 4 = iI k := by rw [gI_sI, if_neg (fun q => absurd q.1 (by decide))]; exact h
  have e2 : gI (sI (sI m 48 k a1) 49 k a2) 46 4 = iI k := by rw [gI_sI, if_neg (fun q => absurd q.1 (by decide))]; exact e1
  have e3 : gI (sI (sI (sI m 48 k a1) 49 k a2) 50 k a3) 46 4 = iI k := by rw [gI_sI, if_neg (fun q => absurd q.1 (by decide))]; exact e2
  rw [h, if_neg (by rw [lt0, iI_lt (by omega) (by omega) (by omega) (by omega)]; omega), if_neg (by rw [lt400, iI_lt (by omega) (by omega) (by omega) (by omega)]; omega), ckB_t (iI_inb (by omega) (by omega) (by omega)), lt_def, iI_idx (by omega) (by omega), Int.toNat_natCast, e1, ckB_t (iI_inb (by omega) (by omega) (by omega)), lt_def, iI_idx (by omega) (by omega), Int.toNat_natCast, e2, ckB_t (iI_inb (by omega) (by omega) (by omega)), lt_def, iI_idx (by omega) (by omega), Int.toNat_natCast, e3, lt_def, lt1, iI_add]
  rfl
theorem cutL34G {b : Nat → Int} {T : Nat} {c : Int} (c0 : 0 ≤ c) (c1 : c ≤ 1) (kk : Int32 → Mem → Option (Unit × Mem)) : ∀ (d e nf : Nat) (z : Mem), T - e = d → e ≤ T → d < nf → BT z b T → (∀ i, i < e → gI z 47 i = iI (b i)) → ∃ z', F_Tx_cutG_L34 (iI T) (iI c) kk nf (iI e) z = kk (iI (sc (fun x => decide (kdB x = c)) b T e)) z' ∧ (∀ i, i < sc (fun x => decide (kdB x = c)) b T e → gI z' 47 i = iI (b i)) ∧ Fr [47] [] z z' := by
  intro d
  induction d with
  | zero =>
    intro e nf z hd he hnf h hb
    obtain ⟨nf, rfl⟩ : ∃ x, nf = x + 1 := ⟨nf - 1, by omega⟩
    have h4 := h.1
    rw [sc_T (by omega)]
    refine ⟨z, ?_, hb, Fr_rf⟩
    rw [F_Tx_cutG_L34, if_neg (by rw [show (2 : Int32) = iI 2 from rfl, iI_eq (by omega) (by omega) (by omega) (by omega)]; omega), if_pos (by rw [iI_le (by omega) (by omega) (by omega) (by omega)]; omega)]
  | succ d ih =>
    intro e nf z hd he hnf h hb
    obtain ⟨nf, rfl⟩ : ∃ x, nf = x + 1 := ⟨nf - 1, by omega⟩
    have h4 := h.1
    obtain ⟨g1, g2, g3⟩ := h.2 e (by omega)
    have hr := kdB_rng (b e)
    rw [F_Tx_cutG_L34, if_neg (by rw [show (2 : Int32) = iI 2 from rfl, iI_eq (by omega) (by omega) (by omega) (by omega)]; omega), if_neg (by rw [iI_le (by omega) (by omega) (by omega) (by omega)]; omega), ckB_t (iI_inb (by omega) (by omega) (by omega)), lt_def, iI_idx (by omega) (by omega), Int.toNat_natCast, g1, bnd_some (kindOf_eq g2 g3 z)]
    by_cases hk : kdB (b e) = c
    · obtain ⟨z', e1, e2, e3⟩ := ih (e + 1) nf (sI z 47 e (iI (b e))) (by omega) (by omega) (by omega) (h.cg (fun j => by rw [gI_sI, if_neg (fun q => absurd q.1 (by decide))])) (fun i hi => by
        rw [gI_sI]
        by_cases hie : i = e
        · rw [if_pos ⟨rfl, hie⟩, hie]
        · rw [if_neg (fun q => hie q.2)]
          exact hb i (by omega))
      refine ⟨z', ?_, ?_, Fr_tr (Fr_sI rfl Fr_rf (by simp)) e3 (by simp) (by simp)⟩
      · rw [if_pos (by rw [hk]), ckB_t (iI_inb (by omega) (by omega) (by omega)), lt_def, g1, ckB_t (iI_inb (by omega) (by omega) (by omega)), lt_def, lt_def, lt1, iI_add, sc_t (by omega) (decide_eq_true hk)]
        exact e1
      · rw [sc_t (by omega) (decide_eq_true hk)]
        exact e2
    · rw [sc_f (by rw [decide_eq_true_eq]; exact hk)]
      refine ⟨z, ?_, hb, Fr_rf⟩
      rw [if_neg (by rw [iI_eq (by omega) (by omega) (by omega) (by omega)]; exact hk)]
def CIG (b : Nat → Int) (T p k : Nat) (z : Mem) : Prop := p ≤ T ∧ k ≤ p ∧ blk b T p = Bq b T k ∧ (∀ j, j < k → Bq b T j < T) ∧ gI z 46 4 = iI k ∧ (∀ i, i < p → gI z 47 i = iI (b i)) ∧ (∀ j, j < k → gI z 48 j = iI (kdB (b (Bq b T j))) ∧ gI z 49 j = iI (Bq b T j) ∧ gI z 50 j = iI (Eq1 b T j)) ∧ BT z b T
theorem cutL7G {b : Nat → Int} {T : Nat} (kk : Mem → Option (Unit × Mem)) : ∀ (d p k nf : Nat) (z : Mem), T - p ≤ d → d < nf → CIG b T p k z → ∃ z' K, F_Tx_cutG_L7 (iI T) kk nf (iI p) z = kk z' ∧ CIG b T T K z' := by
  obtain ⟨N, hN⟩ : ∃ N : Nat, N = 1000000 := ⟨_, rfl⟩
  intro d
  induction d with
  | zero =>
    intro p k nf z hd hnf h
    obtain ⟨nf, rfl⟩ : ∃ x, nf = x + 1 := ⟨nf - 1, by omega⟩
    have h4 := h.2.2.2.2.2.2.2.1
    have hp := h.1
    have e : p = T := by omega
    subst e
    exact ⟨z, k, by rw [F_Tx_cutG_L7, if_pos (by rw [iI_le (by omega) (by omega) (by omega) (by omega)]; omega)], h⟩
  | succ d ih =>
    intro p k nf z hd hnf h
    obtain ⟨nf, rfl⟩ : ∃ x, nf = x + 1 := ⟨nf - 1, by omega⟩
    obtain ⟨hp, hkp, hbl, hlt, hth, hby, htk, hBT⟩ := id h
    have h4 := hBT.1
    by_cases hpT : p < T
    · obtain ⟨g1, g2, g3⟩ := hBT.2 p hpT
      have hr := kdB_rng (b p)
      obtain ⟨z1, hz1⟩ : ∃ x, x = sI z 47 p (iI (b p)) := ⟨_, rfl⟩
      have f1 : Fr [47] [] z z1 := Fr_sI hz1 Fr_rf (by simp)
      have hBT1 : BT z1 b T := hBT.cg (fun j => f1.gI (by simp) (by simp))
      have hby1 : ∀ i, i < p + 1 → gI z1 47 i = iI (b i) := by
        intro i hi
        rw [hz1, gI_sI]
        by_cases hie : i = p
        · rw [if_pos ⟨rfl, hie⟩, hie]
        · rw [if_neg (fun q => hie q.2)]
          exact hby i (by omega)
      have hg1 : gI z1 1 p = iI (b p) := (hBT1.2 p hpT).1
      rw [F_Tx_cutG_L7, if_neg (by rw [iI_le (by omega) (by omega) (by omega) (by omega)]; omega), ckB_t (iI_inb (by omega) (by omega) (by omega)), lt_def, iI_idx (by omega) (by omega), Int.toNat_natCast, g1, ckB_t (iI_inb (by omega) (by omega) (by omega)), lt_def, ← hz1, lt_def, ckB_t (iI_inb (by omega) (by omega) (by omega)), lt_def, hg1, bnd_some (kindOf_eq g2 g3 z1), ← hN]
      obtain ⟨k75, h75⟩ : ∃ x : Int32 → Mem → Option (Unit × Mem), x = fun (xq21 : Int32) (mq20 : Mem) => ((ckB (inb (iI p) 400) <| lt (gI mq20 1 p) fun xq23 => lt (fun (mq24 : Mem) => ((F_Tx_cutG_L7 (iI T) kk nf xq21 mq24) : Option (Unit × Mem))) fun k92_24 => if xq23 = (32 : Int32) then (k92_24 mq20) else (bnd (F_Tx_addThingG (iI (kdB (b p))) (iI p) xq21 mq20) fun _ mq25 => k92_24 mq25)) : Option (Unit × Mem)) := ⟨_, rfl⟩
      rw [lt_def, ← h75, lt1, iI_add, show ((p : Nat) : Int) + 1 = ((p + 1 : Nat) : Int) by omega]
      -- the thing's end
      have hend : ∃ z2, F_Tx_cutG_L34 (iI T) (iI (kdB (b p))) k75 N (iI (p + 1 : Nat)) z1 = k75 (iI (tnd b T p)) z2 ∧ (∀ i, i < tnd b T p → gI z2 47 i = iI (b i)) ∧ Fr [47] [] z1 z2 := by
        rw [tnd_e hpT]
        by_cases h2 : kdB (b p) = 2
        · rw [if_pos h2]
          refine ⟨z1, ?_, hby1, Fr_rf⟩
          obtain ⟨N', rfl⟩ : ∃ x, N = x + 1 := ⟨999999, by omega⟩
          rw [F_Tx_cutG_L34, if_pos (by rw [h2]; rfl)]
        · rw [if_neg h2]
          exact cutL34G hr.1 (by omega) k75 (T - (p + 1)) (p + 1) N z1 rfl (by omega) (by omega) hBT1 hby1
      obtain ⟨z2, e2, hby2, f2⟩ := hend
      rw [e2, h75]
      dsimp only
      have htn := tnd_gt (b := b) hpT
      have hBT2 : BT z2 b T := hBT1.cg (fun j => f2.gI (by simp) (by simp))
      have f12 : Fr [47] [] z z2 := Fr_tr f1 f2 (by simp) (by simp)
      rw [ckB_t (iI_inb (by omega) (by omega) (by omega)), lt_def, (hBT2.2 p hpT).1, lt_def]
      by_cases h32 : b p = 32
      · have hte : tnd b T p = p + 1 := by
          rw [tnd_e hpT, if_pos (by rw [h32]; rfl)]
        rw [if_pos (by rw [h32]; rfl), hte]
        refine ih (p + 1) k nf z2 (by omega) (by omega) ⟨by omega, by omega, ?_, hlt, ?_, fun i hi => hby2 i (by omega), fun j hj => ?_, hBT2⟩
        · rw [← hbl]
          exact (sc_t hpT (isB_e.2 h32)).symm
        · rw [f12.gI (by simp) (by simp)]; exact hth
        · rw [f12.gI (by simp) (by simp), f12.gI (by simp) (by simp), f12.gI (by simp) (by simp)]; exact htk j hj
      · have hBk : Bq b T k = p := by
          rw [← hbl]
          exact sc_f (fun w => h32 (isB_e.1 w))
        have hEk : Eq1 b T k = tnd b T p := by
          unfold Eq1
          rw [hBk, if_pos hpT]
        have hth2 : gI z2 46 4 = iI k := by rw [f12.gI (by simp) (by simp)]; exact hth
        rw [if_neg (by rw [show (32 : Int32) = iI 32 from rfl, iI_eq (by omega) (by omega) (by omega) (by omega)]; exact h32), bnd_some (addThingG_eq hth2 (by omega) _ _ _)]
        have f3 : Fr [48, 49, 50] [(46, 4)] z2 (sI (sI (sI (sI z2 48 k (iI (kdB (b p)))) 49 k (iI p)) 50 k (iI (tnd b T p))) 46 4 (iI (k + 1 : Nat))) := Fr_sI rfl (Fr_sI rfl (Fr_sI rfl (Fr_sI rfl Fr_rf (by simp)) (by simp)) (by simp)) (by simp)
        obtain ⟨z3, hz3⟩ : ∃ x, x = sI (sI (sI (sI z2 48 k (iI (kdB (b p)))) 49 k (iI p)) 50 k (iI (tnd b T p))) 46 4 (iI (k + 1 : Nat)) := ⟨_, rfl⟩
        rw [← hz3] at f3 ⊢
        have c2 : ∀ j, gI z3 48 j = if j = k then iI (kdB (b p)) else gI z2 48 j := by
          intro j
          rw [hz3]
          by_cases hj : j = k
          · rw [if_pos hj, gI_sI, if_neg (fun q => absurd q.1 (by decide)), gI_sI, if_neg (fun q => absurd q.1 (by decide)), gI_sI, if_neg (fun q => absurd q.1 (by decide)), gI_sI, if_pos ⟨rfl, hj⟩]
          · rw [if_neg hj, gI_sI, if_neg (fun q => absurd q.1 (by decide)), gI_sI, if_neg (fun q => absurd q.1 (by decide)), gI_sI, if_neg (fun q => absurd q.1 (by decide)), gI_sI, if_neg (fun q => hj q.2)]
        have c3 : ∀ j, gI z3 49 j = if j = k then iI p else gI z2 49 j := by
          intro j
          rw [hz3]
          by_cases hj : j = k
          · rw [if_pos hj, gI_sI, if_neg (fun q => absurd q.1 (by decide)), gI_sI, if_neg (fun q => absurd q.1 (by decide)), gI_sI, if_pos ⟨rfl, hj⟩]
          · rw [if_neg hj, gI_sI, if_neg (fun q => absurd q.1 (by decide)), gI_sI, if_neg (fun q => absurd q.1 (by decide)), gI_sI, if_neg (fun q => hj q.2), gI_sI, if_neg (fun q => absurd q.1 (by decide))]
        have c4 : ∀ j, gI z3 50 j = if j = k then iI (tnd b T p) else gI z2 50 j := by
          intro j
          rw [hz3]
          by_cases hj : j = k
          · rw [if_pos hj, gI_sI, if_neg (fun q => absurd q.1 (by decide)), gI_sI, if_pos ⟨rfl, hj⟩]
          · rw [if_neg hj, gI_sI, if_neg (fun q => absurd q.1 (by decide)), gI_sI, if_neg (fun q => hj q.2), gI_sI, if_neg (fun q => absurd q.1 (by decide)), gI_sI, if_neg (fun q => absurd q.1 (by decide))]
        refine ih (tnd b T p) (k + 1) nf z3 (by omega) (by omega) ⟨htn.2, by omega, ?_, fun j hj => ?_, by rw [hz3, gI_sI, if_pos ⟨rfl, rfl⟩], fun i hi => ?_, fun j hj => ?_, hBT2.cg (fun j => f3.gI (by simp) (by simp))⟩
        · rw [Bq_s, hEk]
        · by_cases hjk : j = k
          · rw [hjk, hBk]; exact hpT
          · exact hlt j (by omega)
        · rw [f3.gI (by simp) (by simp)]
          exact hby2 i hi
        · rw [c2, c3, c4]
          by_cases hjk : j = k
          · rw [if_pos hjk, if_pos hjk, if_pos hjk, hjk, hBk, hEk]
            exact ⟨rfl, rfl, rfl⟩
          · rw [if_neg hjk, if_neg hjk, if_neg hjk, f12.gI (by simp) (by simp), f12.gI (by simp) (by simp), f12.gI (by simp) (by simp)]
            exact htk j (by omega)
    · have e : p = T := by omega
      subst e
      exact ⟨z, k, by rw [F_Tx_cutG_L7, if_pos (by rw [iI_le (by omega) (by omega) (by omega) (by omega)]; omega)], h⟩
/-- a text is cut into its things -/
theorem cutG_ok {m : Mem} {b : Nat → Int} {T : Nat} (h : BT m b T) : ∃ m' K, F_Tx_cutG (iI T) m = some ((), m') ∧ TF b T K (Bq b T) (Eq1 b T) ∧ TMG m' b T K (Bq b T) (Eq1 b T) := by
  obtain ⟨N, hN⟩ : ∃ N : Nat, N = 1000000 := ⟨_, rfl⟩
  have h4 := h.1
  obtain ⟨kk, hkk⟩ : ∃ x : Mem → Option (Unit × Mem), x = fun (mq2 : Mem) => ((bnd (F_Tx_addThingG (3 : Int32) (mxI (0 : Int32) (iI T)) (mxI (0 : Int32) (iI T)) mq2) fun _ mq3 => some ((), mq3)) : Option (Unit × Mem)) := ⟨_, rfl⟩
  obtain ⟨m1, K, e1, c1, c2, c3, c4, c5, c6, c7, c8⟩ := cutL7G (b := b) (T := T) kk T 0 0 N (sI m 46 4 (iI (0 : Nat))) (by omega) (by omega) ⟨by omega, by omega, rfl, fun j hj => absurd hj (by omega), by rw [gI_sI, if_pos ⟨rfl, rfl⟩], fun i hi => absurd hi (by omega), fun j hj => absurd hj (by omega), h.cg (fun j => by rw [gI_sI, if_neg (fun q => absurd q.1 (by decide))])⟩
  have hbT : blk b T T = T := sc_T (Nat.le_refl _)
  have hBK : Bq b T K = T := by rw [← c3, hbT]
  have hEK : Eq1 b T K = T := by
    unfold Eq1
    rw [hBK, if_neg (by omega)]
  have hx : mxI (0 : Int32) (iI T) = iI T := by rw [lt0, mxI_iI (by omega) (by omega) (by omega) (by omega), show max 0 (T : Int) = T by omega]
  obtain ⟨m2, hm2⟩ : ∃ x, x = sI (sI (sI (sI m1 48 K (3 : Int32)) 49 K (iI T)) 50 K (iI T)) 46 4 (iI (K + 1 : Nat)) := ⟨_, rfl⟩
  have f3 : Fr [48, 49, 50] [(46, 4)] m1 m2 := Fr_sI hm2 (Fr_sI rfl (Fr_sI rfl (Fr_sI rfl Fr_rf (by simp)) (by simp)) (by simp)) (by simp)
  refine ⟨m2, K, ?_, ?_, ?_⟩
  · unfold F_Tx_cutG
    rw [← hN, lt_def, lt_def, ← hkk]
    refine (show _ = _ from e1).trans ?_
    rw [hkk]
    dsimp only
    rw [hx, bnd_some (addThingG_eq c5 (by omega) _ _ _), hm2]
  · refine TF.mk ⟨h4, c2, fun k hk => ⟨(h.2 k hk).2.1, (h.2 k hk).2.2⟩, rfl, hBK, hEK, c4, fun j hj => Bq_nb (c4 j hj), fun j hj => ?_, fun j hj => Bq_s b T j⟩
    unfold Eq1
    rw [if_pos (c4 j hj)]
  · refine TMG.mk ⟨by rw [hm2, gI_sI, if_pos ⟨rfl, rfl⟩], fun k hk => by rw [f3.gI (by simp) (by simp)]; exact c6 k hk, fun j hj => ?_, ?_, fun j hj => ?_, fun j hj => ?_⟩
    · rw [hm2, gI_sI, if_neg (fun q => absurd q.1 (by decide)), gI_sI, if_neg (fun q => absurd q.1 (by decide)), gI_sI, if_neg (fun q => absurd q.1 (by decide)), gI_sI, if_neg (fun q => by have := q.2; omega)]
      exact (c7 j hj).1
    · rw [hm2, gI_sI, if_neg (fun q => absurd q.1 (by decide)), gI_sI, if_neg (fun q => absurd q.1 (by decide)), gI_sI, if_neg (fun q => absurd q.1 (by decide)), gI_sI, if_pos ⟨rfl, rfl⟩]
      rfl
    · rw [hm2, gI_sI, if_neg (fun q => absurd q.1 (by decide)), gI_sI, if_neg (fun q => absurd q.1 (by decide)), gI_sI]
      by_cases hjk : j = K
      · rw [if_pos ⟨rfl, hjk⟩, hjk, hBK]
      · rw [if_neg (fun q => hjk q.2), gI_sI, if_neg (fun q => absurd q.1 (by decide))]
        exact (c7 j (by omega)).2.1
    · rw [hm2, gI_sI, if_neg (fun q => absurd q.1 (by decide)), gI_sI]
      by_cases hjk : j = K
      · rw [if_pos ⟨rfl, hjk⟩, hjk, hEK]
      · rw [if_neg (fun q => hjk q.2), gI_sI, if_neg (fun q => absurd q.1 (by decide)), gI_sI, if_neg (fun q => absurd q.1 (by decide))]
        exact (c7 j (by omega)).2.2
end CUT
