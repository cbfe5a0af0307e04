section LINES
theorem sgn_E {b : Nat → Int} {T K : Nat} {B E : Nat → Nat} (tf : TF b T K B E) {k : Nat} (hk : k < K) (h : kdB (b (B k)) = 2) : E k = B k + 1 ∧ blk b T (B k + 1) = B (k + 1) := by
  have e : E k = B k + 1 := by
    rw [tf.en k hk]
    unfold tnd
    rw [if_neg (fun w => by have := kdB_w.2 w; omega), if_neg (fun w => by have := kdB_d.2 w; omega)]
  exact ⟨e, by rw [← e]; exact (tf.nx k hk).symm⟩
theorem linesL {b : Nat → Int} {T K : Nat} {B E : Nat → Nat} (tf : TF b T K B E) (I : Nat → Nat → Mem → Mem → Prop) {most : Nat} (hm : most ≤ 14) (g : Bool)
  (hC : ∀ n k mC mR, I n k mC mR → CTL mC b T K B E k ∧ ∃ p, blk b T p = B k ∧ RSc mR b T p)
  (hR : ∀ n k mC mR mR', I n k mC mR → RSc mR' b T (B k) → Fr [] [(78, 9), (78, 11)] mR mR' → I n k mC mR')
  (hS : ∀ n k mC mR mR', I n k mC mR → k < K → blk b T (B k + 1) = B (k + 1) → RSc mR' b T (B k + 1) → Fr [] [(78, 9), (78, 11)] mR mR' → I n (k + 1) (sI mC 52 5 (iI (k + 1 : Nat))) mR')
  (hL : ∀ n k mC mR, n < most → I n k mC mR → ∃ ok mC' mR', F_LT_readLine mC = some ((), mC') ∧ F_M_readLine g (iI n) mR = some (ok, mR') ∧ ((ok = true ∧ ∃ k', k < k' ∧ I (n + 1) k' mC' mR') ∨ (ok = false ∧ ∃ f, DDL mC' f ∧ gI mR' 78 11 = iI f)))
  (hE : ∀ k mC mR, I most k mC mR → ∃ mR', F_M_readLine g (iI most) mR = some (false, mR') ∧ gI mR' 78 11 = iI (B k))
  (k78 : Int32 → Mem → Option (Int32 × Mem)) (k91 : Mem → Option (Int32 × Mem)) (k54 : Int32 → Mem → Option (Int32 × Mem)) (h78 : k78 = fun (xq10 : Int32) (mq9 : Mem) => ((bnd (F_Tx_setWrongL mq9) fun _ mq11 => some (xq10, mq11)) : Option (Int32 × Mem))) (h91 : k91 = fun (mq14 : Mem) => ((bnd (F_Tx_setWrongL mq14) fun _ mq15 => some (iI most, mq15)) : Option (Int32 × Mem))) (h54 : k54 = fun (xq9 : Int32) (mq8 : Mem) => ((some (xq9 + (1 : Int32), mq8)) : Option (Int32 × Mem))) :
  ∀ (d n k nfC nfR : Nat) (mC mR : Mem), K + 1 - k ≤ d → d < nfC → d < nfR → n ≤ most → I n k mC mR → ∃ (r : Int32) (mC' : Mem) (v : Int32) (mR' : Mem), F_Tx_readLinesL_L40 (iI most) k78 k91 nfC (iI (n + 1 : Nat)) mC = some (r, mC') ∧ F_M_readAll_L28 g k54 nfR (iI n) mR = some (v, mR') ∧ ((∃ n' : Nat, 1 ≤ n' ∧ n' ≤ most ∧ r = iI n' ∧ v = iI n' ∧ I n' K mC' mR') ∨ (v = iI (-1) ∧ ∃ f, DDL mC' f ∧ gI mR' 78 11 = iI f)) := by
  intro d
  induction d with
  | zero =>
    intro n k nfC nfR mC mR hd hnC hnR hn hI
    have := (hC _ _ _ _ hI).1.kK
    omega
  | succ d ih =>
    intro n k nfC nfR mC mR hd hnC hnR hn hI
    obtain ⟨nfC, rfl⟩ : ∃ x, nfC = x + 1 := ⟨nfC - 1, by omega⟩
    obtain ⟨nfR, rfl⟩ : ∃ x, nfR = x + 1 := ⟨nfR - 1, by omega⟩
    have t4 := tf.t4
    have kT := tf.kT
    by_cases hnm : n < most
    · obtain ⟨ok, mC1, mR1, e1, e2, e3⟩ := hL n k mC mR hnm hI
      have hlt : ¬ iI (most : Int) < iI ((n + 1 : Nat) : Int) := by rw [iI_lt (by omega) (by omega) (by omega) (by omega)]; omega
      rcases e3 with ⟨rfl, k', hk', hI1⟩ | ⟨rfl, f, hd1, h11⟩
      · obtain ⟨hc, p, hp, hr⟩ := hC _ _ _ _ hI1
        have kK' := hc.kK
        obtain ⟨mR2, b1, b2, b3, b4⟩ := Mblanks_ok hr
        rw [hp] at b2 b3
        have hI2 := hR _ _ _ _ _ hI1 b2 b4
        have hat := isAtL_eq hc (c := 3) (by omega) (by omega)
        have hkd := kdB_rng (b (B k'))
        by_cases hK : k' = K
        · refine ⟨iI (n + 1 : Nat), mC1, iI (n + 1 : Nat), mR2, ?_, ?_, Or.inl ⟨n + 1, by omega, by omega, rfl, rfl, by rw [← hK]; exact hI2⟩⟩
          · rw [F_Tx_readLinesL_L40, if_neg hlt, bnd_some e1, if_pos (show gI mC1 52 6 = (-1 : Int32) from hc.wr), show (3 : Int32) = iI 3 from rfl, bnd_some hat, decide_eq_true (Or.inr ⟨hK, rfl⟩), if_pos rfl]
          · rw [F_M_readAll_L28, bnd_some e2, if_pos rfl, bnd_some b1, b2.2.2.1, b2.2.1, hK, tf.bK, if_pos rfl, h54]
            dsimp only
            rw [lt1, iI_add]
            rfl
        · have hkK : k' < K := by omega
          have hBT := tf.lt k' hkK
          have hbne : ¬ iI ((B k' : Nat) : Int) = iI (T : Int) := by rw [iI_eq (by omega) (by omega) (by omega) (by omega)]; omega
          have hf : decide ((k' < K ∧ kdB (b (B k')) = 3) ∨ (k' = K ∧ (3 : Int) = 3)) = false := decide_eq_false (fun q => q.elim (fun w => by omega) (fun w => hK w.1))
          have hia := MisAt_eq b2 (lo := 59) (hi := 59) (by omega) (by omega) (by omega)
          by_cases hsc : B k' < T ∧ b (B k') = 59
          · obtain ⟨g1, g2⟩ := sgn_E tf hkK (by rw [hsc.2]; rfl)
            have hI3 := hS _ _ _ _ (sI mR2 78 9 (iI (B k' + 1 : Nat))) hI2 hkK g2 (b2.set (by omega)) (Fr_sI rfl Fr_rf (by simp))
            obtain ⟨r, mC', v, mR', i1, i2, i3⟩ := ih (n + 1) (k' + 1) nfC nfR _ _ (by omega) (by omega) (by omega) (by omega) hI3
            refine ⟨r, mC', v, mR', ?_, ?_, i3⟩
            · rw [F_Tx_readLinesL_L40, if_neg hlt, bnd_some e1, if_pos (show gI mC1 52 6 = (-1 : Int32) from hc.wr), show (3 : Int32) = iI 3 from rfl, bnd_some hat, hf, if_neg (by decide), show (59 : Int32) = iI 59 from rfl, bnd_some (takesSignL_eq hc (by decide) (by omega) (by omega)), decide_eq_true hsc, if_pos rfl, if_pos hsc, lt_def, lt1, iI_add]
              exact i1
            · rw [F_M_readAll_L28, bnd_some e2, if_pos rfl, bnd_some b1, b2.2.2.1, b2.2.1, if_neg hbne, show (59 : Int32) = iI 59 from rfl, bnd_some hia, decide_eq_true (by omega), if_pos rfl, b2.2.2.1, lt_def, lt1, iI_add, lt_def, iI_add]
              exact i2
          · refine ⟨iI (n + 1 : Nat), sI mC1 52 6 (iI (B k')), iI (-1), mR2, ?_, ?_, Or.inr ⟨rfl, B k', ddL_set hc, b3⟩⟩
            · rw [F_Tx_readLinesL_L40, if_neg hlt, bnd_some e1, if_pos (show gI mC1 52 6 = (-1 : Int32) from hc.wr), show (3 : Int32) = iI 3 from rfl, bnd_some hat, hf, if_neg (by decide), show (59 : Int32) = iI 59 from rfl, bnd_some (takesSignL_eq hc (by decide) (by omega) (by omega)), decide_eq_false hsc, if_neg (by decide), if_neg hsc, h78]
              dsimp only
              rw [bnd_some (setWrongL_eq hc)]
            · rw [F_M_readAll_L28, bnd_some e2, if_pos rfl, bnd_some b1, b2.2.2.1, b2.2.1, if_neg hbne, show (59 : Int32) = iI 59 from rfl, bnd_some hia, decide_eq_false (by omega), if_neg (by decide)]
              rfl
      · refine ⟨iI (n + 1 : Nat), mC1, iI (-1), mR1, ?_, ?_, Or.inr ⟨rfl, f, hd1, h11⟩⟩
        · have hdf := hd1.2
          rw [F_Tx_readLinesL_L40, if_neg hlt, bnd_some e1, if_neg (by rw [hd1.1, show (-1 : Int32) = iI (-1) from rfl, iI_eq (by omega) (by omega) (by omega) (by omega)]; omega)]
        · rw [F_M_readAll_L28, bnd_some e2, if_neg (by decide)]
          rfl
    · have hn2 : n = most := by omega
      subst hn2
      obtain ⟨hc, -⟩ := hC _ _ _ _ hI
      obtain ⟨mR', e2, e3⟩ := hE k mC mR hI
      refine ⟨iI n, sI mC 52 6 (iI (B k)), iI (-1), mR', ?_, ?_, Or.inr ⟨rfl, B k, ddL_set hc, e3⟩⟩
      · rw [F_Tx_readLinesL_L40, if_pos (by rw [iI_lt (by omega) (by omega) (by omega) (by omega)]; omega), h91]
        dsimp only
        rw [bnd_some (setWrongL_eq hc)]
      · rw [F_M_readAll_L28, bnd_some e2, if_neg (by decide)]
        rfl
/-- a whole text, in class and reference -/
theorem textL {b : Nat → Int} {T : Nat} (I : Nat → Nat → Nat → Mem → Mem → Prop) {most : Nat} (hm : most ≤ 14) (g : Bool) {mC0 mR0 : Mem} (hB : BT mC0 b T) (hR0 : RT mR0 b T) (h8 : gI mR0 78 8 = iI T)
  (hC : ∀ K n k mC mR, I K n k mC mR → CTL mC b T K (Bq b T) (Eq1 b T) k ∧ ∃ p, blk b T p = Bq b T k ∧ RSc mR b T p)
  (hR : ∀ K n k mC mR mR', I K n k mC mR → RSc mR' b T (Bq b T k) → Fr [] [(78, 9), (78, 11)] mR mR' → I K n k mC mR')
  (hS : ∀ K n k mC mR mR', I K n k mC mR → k < K → blk b T (Bq b T k + 1) = Bq b T (k + 1) → RSc mR' b T (Bq b T k + 1) → Fr [] [(78, 9), (78, 11)] mR mR' → I K n (k + 1) (sI mC 52 5 (iI (k + 1 : Nat))) mR')
  (hL : ∀ K n k mC mR, n < most → I K n k mC mR → ∃ ok mC' mR', F_LT_readLine mC = some ((), mC') ∧ F_M_readLine g (iI n) mR = some (ok, mR') ∧ ((ok = true ∧ ∃ k', k < k' ∧ I K (n + 1) k' mC' mR') ∨ (ok = false ∧ ∃ f, DDL mC' f ∧ gI mR' 78 11 = iI f)))
  (hE : ∀ K k mC mR, I K most k mC mR → ∃ mR', F_M_readLine g (iI most) mR = some (false, mR') ∧ gI mR' 78 11 = iI (Bq b T k))
  (hI0 : ∀ K mC mR, CTL mC b T K (Bq b T) (Eq1 b T) 0 → Fr [53, 54, 55, 56] [(52, 4), (52, 5), (52, 6)] mC0 mC → RSc mR b T (Bq b T 0) → gI mR 78 15 = iI 0 → Fr [] [(78, 0), (78, 8), (78, 9), (78, 10), (78, 11), (78, 15)] mR0 mR → I K 0 0 mC mR) :
  ∃ (K : Nat) (r : Int32) (mC' : Mem) (v : Int32) (mR' : Mem), F_Tx_readLinesL (iI T) (iI most) mC0 = some (r, mC') ∧ F_M_readAll g mR0 = some (v, mR') ∧ ((∃ n' : Nat, n' ≤ most ∧ r = iI n' ∧ v = iI n' ∧ I K n' K mC' mR') ∨ (v = iI (-1) ∧ ∃ f, DDL mC' f ∧ gI mR' 78 11 = iI f)) := by
  obtain ⟨N, hN⟩ : ∃ N : Nat, N = 1000000 := ⟨_, rfl⟩
  have h4 := hB.1
  obtain ⟨m1, K, e1, tf, tm⟩ := cutL_ok hB
  have f1 := fr_Tx_cutL _ _ _ _ e1
  have hmn : mnI (iI T) (mnI (400 : Int32) (400 : Int32)) = iI T := by
    rw [lt400, mnI_iI (by omega) (by omega) (by omega) (by omega), mnI_iI (by omega) (by omega) (by omega) (by omega)]
    congr 1
    omega
  obtain ⟨mC, hmC⟩ : ∃ x, x = sI (sI m1 52 5 (0 : Int32)) 52 6 (-1 : Int32) := ⟨_, rfl⟩
  have hct : CTL mC b T K (Bq b T) (Eq1 b T) 0 := by
    refine CTL.mk ⟨tf, tm.cg ?_ (fun o a c j => ?_), ?_, by rw [hmC, gI_sI, if_pos ⟨rfl, rfl⟩]; rfl, by omega⟩
    · rw [hmC, gI_sI, if_neg (fun q => absurd q.2 (by decide)), gI_sI, if_neg (fun q => absurd q.2 (by decide))]
    · rw [hmC, gI_sI, if_neg (fun q => by have := q.1; omega), gI_sI, if_neg (fun q => by have := q.1; omega)]
    · rw [hmC, gI_sI, if_neg (fun q => absurd q.2 (by decide)), gI_sI, if_pos ⟨rfl, rfl⟩]
      rfl
  have hfC : Fr [53, 54, 55, 56] [(52, 4), (52, 5), (52, 6)] mC0 mC := Fr_sI hmC (Fr_sI rfl (Fr_wk f1 (by simp) (by simp)) (by simp)) (by simp)
  -- the reference's beginning
  obtain ⟨mr, hmr⟩ : ∃ x, x = sI (sI (sI (sI mR0 78 0 0) 78 10 (iI T)) 78 8 0) 78 9 0 := ⟨_, rfl⟩
  have er : F_M_uses mR0 = some ((), mr) := by
    unfold F_M_uses
    rw [lt_def, lt_def, lt_def, lt_def, gI_sI, if_neg (fun q => absurd q.2 (by decide)), h8, hmr]
  have fr1 := fr_M_uses _ _ _ er
  obtain ⟨ms, hms⟩ : ∃ x, x = sI mr 78 15 (0 : Int32) := ⟨_, rfl⟩
  have fs : Fr [] [(78, 0), (78, 8), (78, 9), (78, 10), (78, 15)] mR0 ms := Fr_sI hms (Fr_wk fr1 (by simp) (by simp)) (by simp)
  have hrs : RSc ms b T 0 := by
    refine ⟨hR0.cg (fun j => fs.gI (by simp) (by simp)), ?_, ?_, by omega⟩
    · rw [hms, gI_sI, if_neg (fun q => absurd q.2 (by decide)), hmr]; rfl
    · rw [hms, gI_sI, if_neg (fun q => absurd q.2 (by decide)), hmr]; rfl
  obtain ⟨mb, b1, b2, b3, b4⟩ := Mblanks_ok hrs
  have h15 : gI mb 78 15 = iI 0 := by rw [b4.gI (by simp) (by simp), hms]; rfl
  have hI : I K 0 0 mC mb := hI0 K mC mb hct hfC b2 h15 (Fr_tr (Fr_wk fs (by simp) (by simp)) b4 (by simp) (by simp))
  have hat := isAtL_eq hct (c := 3) (by omega) (by omega)
  have hkd := kdB_rng (b (Bq b T 0))
  have hb0 : blk b T 0 = Bq b T 0 := rfl
  rw [hb0] at b2 b3
  have hle := tf.le (j := 0) (by omega)
  by_cases hK : 0 = K
  · refine ⟨K, iI (0 : Nat), mC, iI (0 : Nat), mb, ?_, ?_, Or.inl ⟨0, by omega, rfl, rfl, by rw [← hK] at hI ⊢; exact hI⟩⟩
    · unfold F_Tx_readLinesL
      rw [hmn, bnd_some e1, lt_def, lt_def, ← hmC, show (3 : Int32) = iI 3 from rfl, bnd_some hat, decide_eq_true (Or.inr ⟨hK, rfl⟩), if_pos rfl]
      rfl
    · unfold F_M_readAll
      rw [bnd_some er, lt_def, ← hms, bnd_some b1, b2.2.2.1, b2.2.1, if_pos (by rw [hK, tf.bK])]
      rfl
  · have hBT := tf.lt 0 (by omega)
    obtain ⟨k78, h78⟩ : ∃ x, x = fun (xq10 : Int32) (mq9 : Mem) => ((bnd (F_Tx_setWrongL mq9) fun _ mq11 => some (xq10, mq11)) : Option (Int32 × Mem)) := ⟨_, rfl⟩
    obtain ⟨k91, h91⟩ : ∃ x, x = fun (mq14 : Mem) => ((bnd (F_Tx_setWrongL mq14) fun _ mq15 => some (iI most, mq15)) : Option (Int32 × Mem)) := ⟨_, rfl⟩
    obtain ⟨k54, h54⟩ : ∃ x, x = fun (xq9 : Int32) (mq8 : Mem) => ((some (xq9 + (1 : Int32), mq8)) : Option (Int32 × Mem)) := ⟨_, rfl⟩
    obtain ⟨r, mC', v, mR', i1, i2, i3⟩ := linesL tf (I K) hm g (hC K) (hR K) (hS K) (hL K) (hE K) k78 k91 k54 h78 h91 h54 (K + 1) 0 0 N N mC mb (by omega) (by have := tf.kT; omega) (by have := tf.kT; omega) (by omega) hI
    refine ⟨K, r, mC', v, mR', ?_, ?_, ?_⟩
    · unfold F_Tx_readLinesL
      rw [← hN, hmn, bnd_some e1, lt_def, lt_def, ← hmC, show (3 : Int32) = iI 3 from rfl, bnd_some hat, decide_eq_false (fun q => q.elim (fun w => by omega) (fun w => hK w.1)), if_neg (by decide), lt_def, ← h78, lt_def, ← h91]
      exact i1
    · unfold F_M_readAll
      rw [← hN, bnd_some er, lt_def, ← hms, bnd_some b1, b2.2.2.1, b2.2.1, if_neg (by rw [iI_eq (by omega) (by omega) (by omega) (by omega)]; omega), lt_def, ← h54]
      exact i2
    · rcases i3 with ⟨n', a1, a2, a3, a4, a5⟩ | q
      · exact Or.inl ⟨n', a2, a3, a4, a5⟩
      · exact Or.inr q
theorem linesG {b : Nat → Int} {T K : Nat} {B E : Nat → Nat} (tf : TF b T K B E) (I : Nat → Nat → Mem → Mem → Prop) {most : Nat} (hm : most ≤ 14) (g : Bool)
  (hC : ∀ n k mC mR, I n k mC mR → CTG mC b T K B E k ∧ ∃ p, blk b T p = B k ∧ RSc mR b T p)
  (hR : ∀ n k mC mR mR', I n k mC mR → RSc mR' b T (B k) → Fr [] [(78, 9), (78, 11)] mR mR' → I n k mC mR')
  (hS : ∀ n k mC mR mR', I n k mC mR → k < K → blk b T (B k + 1) = B (k + 1) → RSc mR' b T (B k + 1) → Fr [] [(78, 9), (78, 11)] mR mR' → I n (k + 1) (sI mC 46 5 (iI (k + 1 : Nat))) mR')
  (hL : ∀ n k mC mR, n < most → I n k mC mR → ∃ ok mC' mR', F_GT_readLine mC = some ((), mC') ∧ F_M_readLine g (iI n) mR = some (ok, mR') ∧ ((ok = true ∧ ∃ k', k < k' ∧ I (n + 1) k' mC' mR') ∨ (ok = false ∧ ∃ f, DDG mC' f ∧ gI mR' 78 11 = iI f)))
  (hE : ∀ k mC mR, I most k mC mR → ∃ mR', F_M_readLine g (iI most) mR = some (false, mR') ∧ gI mR' 78 11 = iI (B k))
  (k78 : Int32 → Mem → Option (Int32 × Mem)) (k91 : Mem → Option (Int32 × Mem)) (k54 : Int32 → Mem → Option (Int32 × Mem)) (h78 : k78 = fun (xq10 : Int32) (mq9 : Mem) => ((bnd (F_Tx_setWrongG mq9) fun _ mq11 => some (xq10, mq11)) : Option (Int32 × Mem))) (h91 : k91 = fun (mq14 : Mem) => ((bnd (F_Tx_setWrongG mq14) fun _ mq15 => some (iI most, mq15)) : Option (Int32 × Mem))) (h54 : k54 = fun (xq9 : Int32) (mq8 : Mem) => ((some (xq9 + (1 : Int32), mq8)) : Option (Int32 × Mem))) :
  ∀ (d n k nfC nfR : Nat) (mC mR : Mem), K + 1 - k ≤ d → d < nfC → d < nfR → n ≤ most → I n k mC mR → ∃ (r : Int32) (mC' : Mem) (v : Int32) (mR' : Mem), F_Tx_readLinesG_L40 (iI most) k78 k91 nfC (iI (n + 1 : Nat)) mC = some (r, mC') ∧ F_M_readAll_L28 g k54 nfR (iI n) mR = some (v, mR') ∧ ((∃ n' : Nat, 1 ≤ n' ∧ n' ≤ most ∧ r = iI n' ∧ v = iI n' ∧ I n' K mC' mR') ∨ (v = iI (-1) ∧ ∃ f, DDG mC' f ∧ gI mR' 78 11 = iI f)) := by
  intro d
  induction d with
  | zero =>
    intro n k nfC nfR mC mR hd hnC hnR hn hI
    have := (hC _ _ _ _ hI).1.kK
    omega
  | succ d ih =>
    intro n k nfC nfR mC mR hd hnC hnR hn hI
    obtain ⟨nfC, rfl⟩ : ∃ x, nfC = x + 1 := ⟨nfC - 1, by omega⟩
    obtain ⟨nfR, rfl⟩ : ∃ x, nfR = x + 1 := ⟨nfR - 1, by omega⟩
    have t4 := tf.t4
    have kT := tf.kT
    by_cases hnm : n < most
    · obtain ⟨ok, mC1, mR1, e1, e2, e3⟩ := hL n k mC mR hnm hI
      have hlt : ¬ iI (most : Int) < iI ((n + 1 : Nat) : Int) := by rw [iI_lt (by omega) (by omega) (by omega) (by omega)]; omega
      rcases e3 with ⟨rfl, k', hk', hI1⟩ | ⟨rfl, f, hd1, h11⟩
      · obtain ⟨hc, p, hp, hr⟩ := hC _ _ _ _ hI1
        have kK' := hc.kK
        obtain ⟨mR2, b1, b2, b3, b4⟩ := Mblanks_ok hr
        rw [hp] at b2 b3
        have hI2 := hR _ _ _ _ _ hI1 b2 b4
        have hat := isAtG_eq hc (c := 3) (by omega) (by omega)
        have hkd := kdB_rng (b (B k'))
        by_cases hK : k' = K
        · refine ⟨iI (n + 1 : Nat), mC1, iI (n + 1 : Nat), mR2, ?_, ?_, Or.inl ⟨n + 1, by omega, by omega, rfl, rfl, by rw [← hK]; exact hI2⟩⟩
          · rw [F_Tx_readLinesG_L40, if_neg hlt, bnd_some e1, if_pos (show gI mC1 46 6 = (-1 : Int32) from hc.wr), show (3 : Int32) = iI 3 from rfl, bnd_some hat, decide_eq_true (Or.inr ⟨hK, rfl⟩), if_pos rfl]
          · rw [F_M_readAll_L28, bnd_some e2, if_pos rfl, bnd_some b1, b2.2.2.1, b2.2.1, hK, tf.bK, if_pos rfl, h54]
            dsimp only
            rw [lt1, iI_add]
            rfl
        · have hkK : k' < K := by omega
          have hBT := tf.lt k' hkK
          have hbne : ¬ iI ((B k' : Nat) : Int) = iI (T : Int) := by rw [iI_eq (by omega) (by omega) (by omega) (by omega)]; omega
          have hf : decide ((k' < K ∧ kdB (b (B k')) = 3) ∨ (k' = K ∧ (3 : Int) = 3)) = false := decide_eq_false (fun q => q.elim (fun w => by omega) (fun w => hK w.1))
          have hia := MisAt_eq b2 (lo := 59) (hi := 59) (by omega) (by omega) (by omega)
          by_cases hsc : B k' < T ∧ b (B k') = 59
          · obtain ⟨g1, g2⟩ := sgn_E tf hkK (by rw [hsc.2]; rfl)
            have hI3 := hS _ _ _ _ (sI mR2 78 9 (iI (B k' + 1 : Nat))) hI2 hkK g2 (b2.set (by omega)) (Fr_sI rfl Fr_rf (by simp))
            obtain ⟨r, mC', v, mR', i1, i2, i3⟩ := ih (n + 1) (k' + 1) nfC nfR _ _ (by omega) (by omega) (by omega) (by omega) hI3
            refine ⟨r, mC', v, mR', ?_, ?_, i3⟩
            · rw [F_Tx_readLinesG_L40, if_neg hlt, bnd_some e1, if_pos (show gI mC1 46 6 = (-1 : Int32) from hc.wr), show (3 : Int32) = iI 3 from rfl, bnd_some hat, hf, if_neg (by decide), show (59 : Int32) = iI 59 from rfl, bnd_some (takesSignG_eq hc (by decide) (by omega) (by omega)), decide_eq_true hsc, if_pos rfl, if_pos hsc, lt_def, lt1, iI_add]
              exact i1
            · rw [F_M_readAll_L28, bnd_some e2, if_pos rfl, bnd_some b1, b2.2.2.1, b2.2.1, if_neg hbne, show (59 : Int32) = iI 59 from rfl, bnd_some hia, decide_eq_true (by omega), if_pos rfl, b2.2.2.1, lt_def, lt1, iI_add, lt_def, iI_add]
              exact i2
          · refine ⟨iI (n + 1 : Nat), sI mC1 46 6 (iI (B k')), iI (-1), mR2, ?_, ?_, Or.inr ⟨rfl, B k', ddG_set hc, b3⟩⟩
            · rw [F_Tx_readLinesG_L40, if_neg hlt, bnd_some e1, if_pos (show gI mC1 46 6 = (-1 : Int32) from hc.wr), show (3 : Int32) = iI 3 from rfl, bnd_some hat, hf, if_neg (by decide), show (59 : Int32) = iI 59 from rfl, bnd_some (takesSignG_eq hc (by decide) (by omega) (by omega)), decide_eq_false hsc, if_neg (by decide), if_neg hsc, h78]
              dsimp only
              rw [bnd_some (setWrongG_eq hc)]
            · rw [F_M_readAll_L28, bnd_some e2, if_pos rfl, bnd_some b1, b2.2.2.1, b2.2.1, if_neg hbne, show (59 : Int32) = iI 59 from rfl, bnd_some hia, decide_eq_false (by omega), if_neg (by decide)]
              rfl
      · refine ⟨iI (n + 1 : Nat), mC1, iI (-1), mR1, ?_, ?_, Or.inr ⟨rfl, f, hd1, h11⟩⟩
        · have hdf := hd1.2
          rw [F_Tx_readLinesG_L40, if_neg hlt, bnd_some e1, if_neg (by rw [hd1.1, show (-1 : Int32) = iI (-1) from rfl, iI_eq (by omega) (by omega) (by omega) (by omega)]; omega)]
        · rw [F_M_readAll_L28, bnd_some e2, if_neg (by decide)]
          rfl
    · have hn2 : n = most := by omega
      subst hn2
      obtain ⟨hc, -⟩ := hC _ _ _ _ hI
      obtain ⟨mR', e2, e3⟩ := hE k mC mR hI
      refine ⟨iI n, sI mC 46 6 (iI (B k)), iI (-1), mR', ?_, ?_, Or.inr ⟨rfl, B k, ddG_set hc, e3⟩⟩
      · rw [F_Tx_readLinesG_L40, if_pos (by rw [iI_lt (by omega) (by omega) (by omega) (by omega)]; omega), h91]
        dsimp only
        rw [bnd_some (setWrongG_eq hc)]
      · rw [F_M_readAll_L28, bnd_some e2, if_neg (by decide)]
        rfl
/-- a whole text, in class and reference -/
theorem textG {b : Nat → Int} {T : Nat} (I : Nat → Nat → Nat → Mem → Mem → Prop) {most : Nat} (hm : most ≤ 14) (g : Bool) {mC0 mR0 : Mem} (hB : BT mC0 b T) (hR0 : RT mR0 b T) (h8 : gI mR0 78 8 = iI T)
  (hC : ∀ K n k mC mR, I K n k mC mR → CTG mC b T K (Bq b T) (Eq1 b T) k ∧ ∃ p, blk b T p = Bq b T k ∧ RSc mR b T p)
  (hR : ∀ K n k mC mR mR', I K n k mC mR → RSc mR' b T (Bq b T k) → Fr [] [(78, 9), (78, 11)] mR mR' → I K n k mC mR')
  (hS : ∀ K n k mC mR mR', I K n k mC mR → k < K → blk b T (Bq b T k + 1) = Bq b T (k + 1) → RSc mR' b T (Bq b T k + 1) → Fr [] [(78, 9), (78, 11)] mR mR' → I K n (k + 1) (sI mC 46 5 (iI (k + 1 : Nat))) mR')
  (hL : ∀ K n k mC mR, n < most → I K n k mC mR → ∃ ok mC' mR', F_GT_readLine mC = some ((), mC') ∧ F_M_readLine g (iI n) mR = some (ok, mR') ∧ ((ok = true ∧ ∃ k', k < k' ∧ I K (n + 1) k' mC' mR') ∨ (ok = false ∧ ∃ f, DDG mC' f ∧ gI mR' 78 11 = iI f)))
  (hE : ∀ K k mC mR, I K most k mC mR → ∃ mR', F_M_readLine g (iI most) mR = some (false, mR') ∧ gI mR' 78 11 = iI (Bq b T k))
  (hI0 : ∀ K mC mR, CTG mC b T K (Bq b T) (Eq1 b T) 0 → Fr [47, 48, 49, 50] [(46, 4), (46, 5), (46, 6)] mC0 mC → RSc mR b T (Bq b T 0) → gI mR 78 15 = iI 0 → Fr [] [(78, 0), (78, 8), (78, 9), (78, 10), (78, 11), (78, 15)] mR0 mR → I K 0 0 mC mR) :
  ∃ (K : Nat) (r : Int32) (mC' : Mem) (v : Int32) (mR' : Mem), F_Tx_readLinesG (iI T) (iI most) mC0 = some (r, mC') ∧ F_M_readAll g mR0 = some (v, mR') ∧ ((∃ n' : Nat, n' ≤ most ∧ r = iI n' ∧ v = iI n' ∧ I K n' K mC' mR') ∨ (v = iI (-1) ∧ ∃ f, DDG mC' f ∧ gI mR' 78 11 = iI f)) := by
  obtain ⟨N, hN⟩ : ∃ N : Nat, N = 1000000 := ⟨_, rfl⟩
  have h4 := hB.1
  obtain ⟨m1, K, e1, tf, tm⟩ := cutG_ok hB
  have f1 := fr_Tx_cutG _ _ _ _ e1
  have hmn : mnI (iI T) (mnI (400 : Int32) (400 : Int32)) = iI T := by
    rw [lt400, mnI_iI (by omega) (by omega) (by omega) (by omega), mnI_iI (by omega) (by omega) (by omega) (by omega)]
    congr 1
    omega
  obtain ⟨mC, hmC⟩ : ∃ x, x = sI (sI m1 46 5 (0 : Int32)) 46 6 (-1 : Int32) := ⟨_, rfl⟩
  have hct : CTG mC b T K (Bq b T) (Eq1 b T) 0 := by
    refine CTG.mk ⟨tf, tm.cg ?_ (fun o a c j => ?_), ?_, by rw [hmC, gI_sI, if_pos ⟨rfl, rfl⟩]; rfl, by omega⟩
    · rw [hmC, gI_sI, if_neg (fun q => absurd q.2 (by decide)), gI_sI, if_neg (fun q => absurd q.2 (by decide))]
    · rw [hmC, gI_sI, if_neg (fun q => by have := q.1; omega), gI_sI, if_neg (fun q => by have := q.1; omega)]
    · rw [hmC, gI_sI, if_neg (fun q => absurd q.2 (by decide)), gI_sI, if_pos ⟨rfl, rfl⟩]
      rfl
  have hfC : Fr [47, 48, 49, 50] [(46, 4), (46, 5), (46, 6)] mC0 mC := Fr_sI hmC (Fr_sI rfl (Fr_wk f1 (by simp) (by simp)) (by simp)) (by simp)
  -- the reference's beginning
  obtain ⟨mr, hmr⟩ : ∃ x, x = sI (sI (sI (sI mR0 78 0 0) 78 10 (iI T)) 78 8 0) 78 9 0 := ⟨_, rfl⟩
  have er : F_M_uses mR0 = some ((), mr) := by
    unfold F_M_uses
    rw [lt_def, lt_def, lt_def, lt_def, gI_sI, if_neg (fun q => absurd q.2 (by decide)), h8, hmr]
  have fr1 := fr_M_uses _ _ _ er
  obtain ⟨ms, hms⟩ : ∃ x, x = sI mr 78 15 (0 : Int32) := ⟨_, rfl⟩
  have fs : Fr [] [(78, 0), (78, 8), (78, 9), (78, 10), (78, 15)] mR0 ms := Fr_sI hms (Fr_wk fr1 (by simp) (by simp)) (by simp)
  have hrs : RSc ms b T 0 := by
    refine ⟨hR0.cg (fun j => fs.gI (by simp) (by simp)), ?_, ?_, by omega⟩
    · rw [hms, gI_sI, if_neg (fun q => absurd q.2 (by decide)), hmr]; rfl
    · rw [hms, gI_sI, if_neg (fun q => absurd q.2 (by decide)), hmr]; rfl
  obtain ⟨mb, b1, b2, b3, b4⟩ := Mblanks_ok hrs
  have h15 : gI mb 78 15 = iI 0 := by rw [b4.gI (by simp) (by simp), hms]; rfl
  have hI : I K 0 0 mC mb := hI0 K mC mb hct hfC b2 h15 (Fr_tr (Fr_wk fs (by simp) (by simp)) b4 (by simp) (by simp))
  have hat := isAtG_eq hct (c := 3) (by omega) (by omega)
  have hkd := kdB_rng (b (Bq b T 0))
  have hb0 : blk b T 0 = Bq b T 0 := rfl
  rw [hb0] at b2 b3
  have hle := tf.le (j := 0) (by omega)
  by_cases hK : 0 = K
  · refine ⟨K, iI (0 : Nat), mC, iI (0 : Nat), mb, ?_, ?_, Or.inl ⟨0, by omega, rfl, rfl, by rw [← hK] at hI ⊢; exact hI⟩⟩
    · unfold F_Tx_readLinesG
      rw [hmn, bnd_some e1, lt_def, lt_def, ← hmC, show (3 : Int32) = iI 3 from rfl, bnd_some hat, decide_eq_true (Or.inr ⟨hK, rfl⟩), if_pos rfl]
      rfl
    · unfold F_M_readAll
      rw [bnd_some er, lt_def, ← hms, bnd_some b1, b2.2.2.1, b2.2.1, if_pos (by rw [hK, tf.bK])]
      rfl
  · have hBT := tf.lt 0 (by omega)
    obtain ⟨k78, h78⟩ : ∃ x, x = fun (xq10 : Int32) (mq9 : Mem) => ((bnd (F_Tx_setWrongG mq9) fun _ mq11 => some (xq10, mq11)) : Option (Int32 × Mem)) := ⟨_, rfl⟩
    obtain ⟨k91, h91⟩ : ∃ x, x = fun (mq14 : Mem) => ((bnd (F_Tx_setWrongG mq14) fun _ mq15 => some (iI most, mq15)) : Option (Int32 × Mem)) := ⟨_, rfl⟩
    obtain ⟨k54, h54⟩ : ∃ x, x = fun (xq9 : Int32) (mq8 : Mem) => ((some (xq9 + (1 : Int32), mq8)) : Option (Int32 × Mem)) := ⟨_, rfl⟩
    obtain ⟨r, mC', v, mR', i1, i2, i3⟩ := linesG tf (I K) hm g (hC K) (hR K) (hS K) (hL K) (hE K) k78 k91 k54 h78 h91 h54 (K + 1) 0 0 N N mC mb (by omega) (by have := tf.kT; omega) (by have := tf.kT; omega) (by omega) hI
    refine ⟨K, r, mC', v, mR', ?_, ?_, ?_⟩
    · unfold F_Tx_readLinesG
      rw [← hN, hmn, bnd_some e1, lt_def, lt_def, ← hmC, show (3 : Int32) = iI 3 from rfl, bnd_some hat, decide_eq_false (fun q => q.elim (fun w => by omega) (fun w => hK w.1)), if_neg (by decide), lt_def, ← h78, lt_def, ← h91]
      exact i1
    · unfold F_M_readAll
      rw [← hN, bnd_some er, lt_def, ← hms, bnd_some b1, b2.2.2.1, b2.2.1, if_neg (by rw [iI_eq (by omega) (by omega) (by omega) (by omega)]; omega), lt_def, ← h54]
      exact i2
    · rcases i3 with ⟨n', a1, a2, a3, a4, a5⟩ | q
      · exact Or.inl ⟨n', a2, a3, a4, a5⟩
      · exact Or.inr q
end LINES
