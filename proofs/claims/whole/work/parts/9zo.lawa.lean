section LAWA
def TC (z : Bool) (m : Mem) : Option (Unit × Mem) := bnd (F_LT_readSum m) fun _ mq16 => lt (fun (xq20 : Int32) (mq19 : Mem) => ((bnd (F_Lw_add xq20 mq19) fun _ mq21 => some ((), mq21)) : Option (Unit × Mem))) fun k166_20 => if z = true then (k166_20 (1103 : Int32) mq16) else (k166_20 (1104 : Int32) mq16)
def TR (z : Bool) (m : Mem) : Option (Bool × Mem) := bnd (F_M_readSum m) fun zq28 mq26 => if zq28 = true then (lt (fun (xq30 : Int32) (mq29 : Mem) => ((bnd (F_M_emits xq30 (0 : Int32) mq29) fun _ mq31 => some (true, mq31)) : Option (Bool × Mem))) fun k202_30 => if z = true then (k202_30 (10 : Int32) mq26) else (k202_30 (11 : Int32) mq26)) else (some (false, mq26))
/-- class, behind a first sum -/
def MC (m : Mem) : Option (Unit × Mem) := bnd (F_Tx_takesSignL (60 : Int32) m) fun zq14 mq12 => lt (fun (mq15 : Mem) => (TC zq14 mq15 : Option (Unit × Mem))) fun k145_15 => if zq14 = true then (k145_15 mq12) else (bnd (F_Tx_takesSignL (62 : Int32) mq12) fun zq26 mq24 => if zq26 = true then (k145_15 mq24) else (bnd (F_Tx_setWrongL mq24) fun _ mq27 => k145_15 mq27))
def MR1 (m : Mem) : Option (Bool × Mem) := bnd (F_M_sign (60 : Int32) m) fun zq24 mq22 => lt (fun (mq25 : Mem) => (TR zq24 mq25 : Option (Bool × Mem))) fun k181_25 => if zq24 = true then (k181_25 mq22) else (bnd (F_M_sign (62 : Int32) mq22) fun zq36 mq34 => if zq36 = true then (k181_25 mq34) else (some (false, mq34)))
def BC (m : Mem) : Option (Unit × Mem) := bnd (F_Tx_takesWordL ("cloud") m) fun zq5 mq3 => if zq5 = true then (bnd (F_Lw_add (1006 : Int32) mq3) fun _ mq33 => some ((), mq33)) else (bnd (F_Tx_takesWordL ("tide") mq3) fun zq8 mq6 => if zq8 = true then (bnd (F_Lw_add (1007 : Int32) mq6) fun _ mq30 => some ((), mq30)) else (bnd (F_LT_readSum mq6) fun _ mq9 => MC mq9))
def BR (m : Mem) : Option (Bool × Mem) := bnd (F_M_passes ("cloud") m) fun zq9 mq7 => lt (fun (mq10 : Mem) => ((lt (fun (xq12 : Int32) (mq11 : Mem) => ((bnd (F_M_emits xq12 (0 : Int32) mq11) fun _ mq13 => some (true, mq13)) : Option (Bool × Mem))) fun k146_12 => if zq9 = true then (k146_12 (6 : Int32) mq10) else (k146_12 (7 : Int32) mq10)) : Option (Bool × Mem))) fun k134_10 => if zq9 = true then (k134_10 mq7) else (bnd (F_M_passes ("tide") mq7) fun zq18 mq16 => if zq18 = true then (k134_10 mq16) else (bnd (F_M_readSum mq16) fun zq21 mq19 => if zq21 = true then MR1 mq19 else (some (false, mq19))))
theorem TC_d {m : Mem} {f : Nat} (hd : DDL m f) (z : Bool) : ∃ m', TC z m = some ((), m') ∧ DDL m' f := by
  unfold TC
  rw [bnd_some (sum_d hd), lt_def]
  cases z with
  | true =>
    obtain ⟨m', e, h⟩ := Ladd_d hd (1103 : Int32)
    rw [if_pos rfl]
    dsimp only
    rw [bnd_some e]
    exact ⟨m', rfl, h⟩
  | false =>
    obtain ⟨m', e, h⟩ := Ladd_d hd (1104 : Int32)
    rw [if_neg (by decide)]
    dsimp only
    rw [bnd_some e]
    exact ⟨m', rfl, h⟩
theorem MC_d {m : Mem} {f : Nat} (hd : DDL m f) : ∃ m', MC m = some ((), m') ∧ DDL m' f := by
  obtain ⟨m', e, h⟩ := TC_d hd false
  unfold MC
  rw [bnd_some (takesSignL_d hd _), lt_def, if_neg (by decide), bnd_some (takesSignL_d hd _), if_neg (by decide), bnd_some (setWrongL_d hd)]
  exact ⟨m', e, h⟩
theorem RA.wk {m : Mem} {b : Nat → Int} {T q c c' st dp : Nat} (h : RA m b T q c st dp) (hc : c' ≤ c) : RA m b T q c' st dp := by
  obtain ⟨⟨p, h1, h2, h3⟩, h4, h5⟩ := h
  exact ⟨⟨p, by omega, h2, h3⟩, h4, h5⟩
theorem RA.dp {m : Mem} {b : Nat → Int} {T q c st dp dp' : Nat} (h : RA m b T q c st dp) : RA (sI m 78 12 (iI dp')) b T q c st dp' := by
  obtain ⟨⟨p, h1, h2, h3⟩, h4, h5⟩ := h
  refine ⟨⟨p, h1, h2, h3.cg (fun j => ?_) ?_ ?_⟩, ?_, by rw [gI_sI, if_pos ⟨rfl, rfl⟩]⟩
  · rw [gI_sI, if_neg (fun q => absurd q.1 (by decide))]
  · rw [gI_sI, if_neg (fun q => absurd q.2 (by decide))]
  · rw [gI_sI, if_neg (fun q => absurd q.2 (by decide))]
  · rw [gI_sI, if_neg (fun q => absurd q.2 (by decide))]; exact h4
theorem Acc.wk {b : Nat → Int} {T K : Nat} {B E : Nat → Nat} {k0 s c c' st dp k : Nat} {mC0 mR0 mC mR : Mem} {cs : List Int} (h : Acc b T K B E k0 s c st dp mC0 mR0 mC mR k cs) (hc : c' ≤ c) : Acc b T K B E k0 s c' st dp mC0 mR0 mC mR k cs := by
  obtain ⟨h1, h2, h3, h4, h5, h6, h7⟩ := h
  exact ⟨h1, h2, h3.wk (by omega), h4, h5, h6, h7⟩
theorem Acc.dp {b : Nat → Int} {T K : Nat} {B E : Nat → Nat} {k0 s c st dp dp' k : Nat} {mC0 mR0 mC mR : Mem} {cs : List Int} (h : Acc b T K B E k0 s c st dp mC0 mR0 mC mR k cs) : Acc b T K B E k0 s c st dp' mC0 mR0 mC (sI mR 78 12 (iI dp')) k cs := by
  obtain ⟨h1, h2, h3, h4, h5, h6, h7⟩ := h
  refine ⟨h1, h2, h3.dp, h4, h5, MRow_congr (fun j => ?_) h6, fun j hj => ?_⟩
  · rw [gI_sI, if_neg (fun q => absurd q.1 (by decide))]
  · rw [gI_sI, if_neg (fun q => absurd q.1 (by decide))]; exact h7 j hj
theorem Acc.nil {b : Nat → Int} {T K : Nat} {B E : Nat → Nat} {k s c st dp : Nat} {mC mR mC1 mR1 : Mem} (hC : CA mC1 b T K B E (k + 1) s) (hR : RA mR1 b T (B (k + 1)) c st dp) (h58 : ∀ j, gI mC1 58 j = gI mC 58 j) (h79 : ∀ j, gI mR1 79 j = gI mR 79 j) : Acc b T K B E k s c st dp mC mR mC1 mR1 (k + 1) [] := ⟨by omega, hC, hR, trivial, fun j _ => h58 j, trivial, fun j _ => h79 j⟩
/-- the second sum, and what joins both -/
theorem T_ok {b : Nat → Int} {T K : Nat} {B E : Nat → Nat} {k0 s c st dp k : Nat} {mC0 mR0 mC mR : Mem} {a : List Int} (hs : s + 3 ≤ c) (hst : st + 4 ≤ c) (hA : Acc b T K B E k0 s (c + 1) st dp mC0 mR0 mC mR k a) (hT : Ty false 3 a) (z : Bool) : ∃ ok mC' mR', TC z mC = some ((), mC') ∧ TR z mR = some (ok, mR') ∧ Res true 4 b T K B E k0 s c st dp mC0 mR0 ok mC' mR' := by
  obtain ⟨h1, h2, h3, h4, h5, h6, h7⟩ := id hA
  obtain ⟨ok, mC2, mR2, p1, p2, p3⟩ := sum_ok h2 h3 (by omega) (by omega)
  unfold TC TR
  rw [bnd_some p1, bnd_some p2]
  rcases p3 with ⟨rfl, k', cs, q1, q2, q3⟩ | ⟨rfl, f, q1, q2⟩
  · have hB := hA.app q1
    have fin : ∀ v : Int, (v = 1103 ∨ v = 1104) → ∃ mC3 mR3, F_Lw_add (iI v) mC2 = some ((), mC3) ∧ F_M_emits (iI (ms1 v)) (iI 0) mR2 = some ((), mR3) ∧ Res true 4 b T K B E k0 s c st dp mC0 mR0 true mC3 mR3 := by
      intro v hv
      obtain ⟨mC3, mR3, a1, a2, hB3⟩ := hB.add hs hst (v := v) (by omega)
      refine ⟨mC3, mR3, a1, a2, Or.inl ⟨rfl, k', a ++ (cs ++ [v]), ?_, Ty_cmp hT q2 hv, by simp⟩⟩
      rw [List.append_assoc] at hB3
      exact hB3
    cases z with
    | true =>
      obtain ⟨mC3, mR3, a1, a2, a3⟩ := fin 1103 (Or.inl rfl)
      refine ⟨true, mC3, mR3, ?_, ?_, a3⟩
      · rw [lt_def, if_pos rfl]
        dsimp only
        rw [show (1103 : Int32) = iI 1103 from rfl, bnd_some a1]
      · rw [if_pos rfl, lt_def, if_pos rfl]
        dsimp only
        rw [show (10 : Int32) = iI (ms1 1103) from rfl, show (0 : Int32) = iI 0 from rfl, bnd_some a2]
    | false =>
      obtain ⟨mC3, mR3, a1, a2, a3⟩ := fin 1104 (Or.inr rfl)
      refine ⟨true, mC3, mR3, ?_, ?_, a3⟩
      · rw [lt_def, if_neg (by decide)]
        dsimp only
        rw [show (1104 : Int32) = iI 1104 from rfl, bnd_some a1]
      · rw [if_pos rfl, lt_def, if_neg (by decide)]
        dsimp only
        rw [show (11 : Int32) = iI (ms1 1104) from rfl, show (0 : Int32) = iI 0 from rfl, bnd_some a2]
  · cases z with
    | true =>
      obtain ⟨mC3, a1, hd3⟩ := Ladd_d q1 (1103 : Int32)
      refine ⟨false, mC3, mR2, ?_, ?_, Or.inr ⟨rfl, f, hd3, q2⟩⟩
      · rw [lt_def, if_pos rfl]
        dsimp only
        rw [bnd_some a1]
      · rw [if_neg (by decide)]
    | false =>
      obtain ⟨mC3, a1, hd3⟩ := Ladd_d q1 (1104 : Int32)
      refine ⟨false, mC3, mR2, ?_, ?_, Or.inr ⟨rfl, f, hd3, q2⟩⟩
      · rw [lt_def, if_neg (by decide)]
        dsimp only
        rw [bnd_some a1]
      · rw [if_neg (by decide)]
theorem M_ok {b : Nat → Int} {T K : Nat} {B E : Nat → Nat} {k0 s c st dp k : Nat} {mC0 mR0 mC mR : Mem} {a : List Int} (hs : s + 3 ≤ c) (hst : st + 4 ≤ c) (hA : Acc b T K B E k0 s c st dp mC0 mR0 mC mR k a) (hT : Ty false 3 a) : ∃ ok mC' mR', MC mC = some ((), mC') ∧ MR1 mR = some (ok, mR') ∧ Res true 4 b T K B E k0 s c st dp mC0 mR0 ok mC' mR' := by
  obtain ⟨h1, h2, h3, h4, h5, h6, h7⟩ := id hA
  have tf := h2.1.tf
  have kK := h2.1.kK
  have nx : ∀ {mR' : Mem}, k < K → RA mR' b T (B (k + 1)) (c + a.length + 1) (st + a.length) dp → (∀ j, gI mR' 79 j = gI mR 79 j) → Acc b T K B E k0 s (c + 1) st dp mC0 mR0 (sI mC 52 5 (iI (k + 1 : Nat))) mR' (k + 1) a := by
    intro mR' hk hr e
    refine ⟨by omega, h2.nxt hk, by rw [show c + 1 + a.length = c + a.length + 1 by omega]; exact hr, RowIs_congr k58 h4, fun j hj => (k58 j).trans (h5 j hj), MRow_congr (fun j => e _) h6, fun j hj => (e j).trans (h7 j hj)⟩
  obtain ⟨m1, e1, r1, r2, r3, r4⟩ := Rsign h3 tf kK (x := 60) (by decide) (by omega) (by omega)
  unfold MC MR1
  by_cases hq : B k < T ∧ b (B k) = 60
  · obtain ⟨hk, hR1⟩ := r1 hq
    obtain ⟨ok, mC', mR', t1, t2, t3⟩ := T_ok hs hst (nx hk hR1 r4) hT true
    refine ⟨ok, mC', mR', ?_, ?_, t3⟩
    · rw [show (60 : Int32) = iI 60 from rfl, bnd_some (Csign h2 (by decide) (by omega) (by omega) hq), lt_def, if_pos rfl]
      exact t1
    · rw [show (60 : Int32) = iI 60 from rfl, bnd_some e1, decide_eq_true hq, lt_def, if_pos rfl]
      exact t2
  · have hR1 := r2 hq
    obtain ⟨m2, e2, g1, g2, g3, g4⟩ := Rsign hR1 tf kK (x := 62) (by decide) (by omega) (by omega)
    by_cases hq2 : B k < T ∧ b (B k) = 62
    · obtain ⟨hk, hR2⟩ := g1 hq2
      obtain ⟨ok, mC', mR', t1, t2, t3⟩ := T_ok hs hst (nx hk hR2 (fun j => (g4 j).trans (r4 j))) hT false
      refine ⟨ok, mC', mR', ?_, ?_, t3⟩
      · rw [show (60 : Int32) = iI 60 from rfl, bnd_some (Csign_f h2 (by decide) (by omega) (by omega) hq), lt_def, if_neg (by decide), show (62 : Int32) = iI 62 from rfl, bnd_some (Csign h2 (by decide) (by omega) (by omega) hq2), if_pos rfl]
        exact t1
      · rw [show (60 : Int32) = iI 60 from rfl, bnd_some e1, decide_eq_false hq, lt_def, if_neg (by decide), show (62 : Int32) = iI 62 from rfl, bnd_some e2, decide_eq_true hq2, if_pos rfl]
        exact t2
    · obtain ⟨mC', t1, hd⟩ := TC_d (ddL_set h2.1) false
      refine ⟨false, mC', m2, ?_, ?_, Or.inr ⟨rfl, _, hd, g3⟩⟩
      · rw [show (60 : Int32) = iI 60 from rfl, bnd_some (Csign_f h2 (by decide) (by omega) (by omega) hq), lt_def, if_neg (by decide), show (62 : Int32) = iI 62 from rfl, bnd_some (Csign_f h2 (by decide) (by omega) (by omega) hq2), if_neg (by decide), bnd_some (setWrongL_eq h2.1)]
        exact t1
      · rw [show (60 : Int32) = iI 60 from rfl, bnd_some e1, decide_eq_false hq, lt_def, if_neg (by decide), show (62 : Int32) = iI 62 from rfl, bnd_some e2, decide_eq_false hq2, if_neg (by decide)]
theorem BC_bad {b : Nat → Int} {T K : Nat} {B E : Nat → Nat} {k : Nat} {mC : Mem} (h : CTL mC b T K B E k) (hD : ¬ (k < K ∧ isD (b (B k)) = true)) (v0 : wm b (B k) (wrd b T (B k)) "cloud" = false) (v1 : wm b (B k) (wrd b T (B k)) "tide" = false) (w0 : wm b (B k) (wrd b T (B k)) "session" = false) (w1 : wm b (B k) (wrd b T (B k)) "day" = false) (w2 : wm b (B k) (wrd b T (B k)) "innings" = false) (w3 : wm b (B k) (wrd b T (B k)) "side" = false) (w4 : wm b (B k) (wrd b T (B k)) "bat" = false) (w5 : wm b (B k) (wrd b T (B k)) "bowl" = false) : ∃ mC', BC mC = some ((), mC') ∧ DDL mC' (B k) := by
  have hN := isAtNL_eq h
  rw [decide_eq_false hD] at hN
  have e1 := sumC_d hN (fun kk => PC_bad h w0 w1 w2 w3 w4 w5 kk) (ddL_set h)
  obtain ⟨m', e2, h2⟩ := MC_d (ddL_set h)
  refine ⟨m', ?_, h2⟩
  unfold BC
  rw [bnd_some (tW_f h (by decide) (by decide) v0), if_neg (by decide), bnd_some (tW_f h (by decide) (by decide) v1), if_neg (by decide), bnd_some e1]
  exact e2
theorem base_ok {b : Nat → Int} {T K : Nat} {B E : Nat → Nat} {k s c st dp : Nat} {mC mR : Mem} (hC : CA mC b T K B E k s) (hR : RA mR b T (B k) c st dp) (hs : s + 3 ≤ c) (hst : st + 4 ≤ c) : ∃ ok mC' mR', BC mC = some ((), mC') ∧ BR mR = some (ok, mR') ∧ Res true 4 b T K B E k s c st dp mC mR ok mC' mR' := by
  have tf := hC.1.tf
  have kK := hC.1.kK
  obtain ⟨m1, e1, r1, r2, r3, r4⟩ := Rpass hR tf kK (tx := "cloud") (by decide) (by decide)
  unfold BC BR
  by_cases v0 : wm b (B k) (wrd b T (B k)) "cloud" = true
  · obtain ⟨hk, hR1⟩ := r1 v0
    have hA := Acc.nil (mC := mC) (mR := mR) (hC.nxt hk) hR1 k58 r4
    obtain ⟨mC3, mR3, a1, a2, hB⟩ := hA.add hs hst (v := 1006) (by omega)
    refine ⟨true, mC3, mR3, ?_, ?_, Or.inl ⟨rfl, k + 1, [1006], hB, Ty_sky (Or.inl rfl), by simp⟩⟩
    · rw [bnd_some (tW_t hC.1 (by decide) (by decide) v0), if_pos rfl, show (1006 : Int32) = iI 1006 from rfl, bnd_some a1]
    · rw [bnd_some e1, v0, lt_def, if_pos rfl]
      dsimp only
      rw [lt_def, if_pos rfl]
      dsimp only
      rw [show (6 : Int32) = iI (ms1 1006) from rfl, show (0 : Int32) = iI 0 from rfl, bnd_some a2]
  · have v0 := wm_b v0
    have hR1 := r2 v0
    obtain ⟨m2, e2, g1, g2, g3, g4⟩ := Rpass hR1 tf kK (tx := "tide") (by decide) (by decide)
    by_cases v1 : wm b (B k) (wrd b T (B k)) "tide" = true
    · obtain ⟨hk, hR2⟩ := g1 v1
      have hA := Acc.nil (mC := mC) (mR := mR) (hC.nxt hk) hR2 k58 (fun j => (g4 j).trans (r4 j))
      obtain ⟨mC3, mR3, a1, a2, hB⟩ := hA.add hs hst (v := 1007) (by omega)
      refine ⟨true, mC3, mR3, ?_, ?_, Or.inl ⟨rfl, k + 1, [1007], hB, Ty_sky (Or.inr rfl), by simp⟩⟩
      · rw [bnd_some (tW_f hC.1 (by decide) (by decide) v0), if_neg (by decide), bnd_some (tW_t hC.1 (by decide) (by decide) v1), if_pos rfl, show (1007 : Int32) = iI 1007 from rfl, bnd_some a1]
      · rw [bnd_some e1, v0, lt_def, if_neg (by decide), bnd_some e2, v1, if_pos rfl]
        dsimp only
        rw [lt_def, if_neg (by decide)]
        dsimp only
        rw [show (7 : Int32) = iI (ms1 1007) from rfl, show (0 : Int32) = iI 0 from rfl, bnd_some a2]
    · have v1 := wm_b v1
      have hR2 := g2 v1
      have e79 : ∀ j, gI m2 79 j = gI mR 79 j := fun j => (g4 j).trans (r4 j)
      obtain ⟨ok, mC2, mR2, p1, p2, p3⟩ := sum_ok hC hR2 hs hst
      rcases p3 with ⟨rfl, k', cs, q1, q2, q3⟩ | ⟨rfl, f, q1, q2⟩
      · obtain ⟨ok, mC', mR', t1, t2, t3⟩ := M_ok hs hst (q1.base (Nat.le_refl _) (fun j => rfl) e79) q2
        refine ⟨ok, mC', mR', ?_, ?_, t3⟩
        · rw [bnd_some (tW_f hC.1 (by decide) (by decide) v0), if_neg (by decide), bnd_some (tW_f hC.1 (by decide) (by decide) v1), if_neg (by decide), bnd_some p1]
          exact t1
        · rw [bnd_some e1, v0, lt_def, if_neg (by decide), bnd_some e2, v1, if_neg (by decide), bnd_some p2, if_pos rfl]
          exact t2
      · obtain ⟨m', t1, hd⟩ := MC_d q1
        refine ⟨false, m', mR2, ?_, ?_, Or.inr ⟨rfl, f, hd, q2⟩⟩
        · rw [bnd_some (tW_f hC.1 (by decide) (by decide) v0), if_neg (by decide), bnd_some (tW_f hC.1 (by decide) (by decide) v1), if_neg (by decide), bnd_some p1]
          exact t1
        · rw [bnd_some e1, v0, lt_def, if_neg (by decide), bnd_some e2, v1, if_neg (by decide), bnd_some p2, if_neg (by decide)]
theorem wm_ne {b : Nat → Int} {q e : Nat} {tx ty : String} (h : wm b q e tx = true) (hne : tx.length ≠ ty.length ∨ ∃ i, i < tx.length ∧ i < ty.length ∧ txB tx i ≠ txB ty i) : wm b q e ty = false := by
  obtain ⟨h1, h2⟩ := of_decide_eq_true h
  refine decide_eq_false (fun w => ?_)
  rcases hne with h3 | ⟨i, i1, i2, i3⟩
  · have := w.1
    omega
  · exact i3 ((h2 i i1).symm.trans (w.2 i i2))
/-- an atom that begins with what is one too deep -/
theorem deep_ok {b : Nat → Int} {T K : Nat} {B E : Nat → Nat} {k s : Nat} {mC : Mem} (hC : CA mC b T K B E k s) (h : (B k < T ∧ b (B k) = 40) ∨ wm b (B k) (wrd b T (B k)) "not" = true) : ∃ mC', BC mC = some ((), mC') ∧ DDL mC' (B k) := by
  have tf := hC.1.tf
  have kK := hC.1.kK
  rcases h with ⟨h1, h2⟩ | h
  · have hw : wrd b T (B k) = B k := sc_f (fun q => by have := isW_e.1 q; omega)
    have nw : ∀ tx : String, 0 < tx.length → wm b (B k) (wrd b T (B k)) tx = false := fun tx htx => by rw [hw]; exact wm_no htx
    exact BC_bad hC.1 (fun q => by have := isD_e.1 q.2; omega) (nw _ (by decide)) (nw _ (by decide)) (nw _ (by decide)) (nw _ (by decide)) (nw _ (by decide)) (nw _ (by decide)) (nw _ (by decide)) (nw _ (by decide))
  · obtain ⟨hk, hW, -⟩ := tf.word kK (by decide) h
    refine BC_bad hC.1 (fun q => by have := isD_e.1 q.2; have := isW_e.1 hW; omega) (wm_ne h (Or.inl (by decide))) (wm_ne h (Or.inl (by decide))) (wm_ne h (Or.inl (by decide))) (wm_ne h (Or.inr ⟨0, by decide, by decide, by decide⟩)) (wm_ne h (Or.inl (by decide))) (wm_ne h (Or.inl (by decide))) (wm_ne h (Or.inr ⟨0, by decide, by decide, by decide⟩)) (wm_ne h (Or.inl (by decide)))
/-- an atom -/
theorem atom_ok : ∀ (e : Nat), e ≤ 6 → ∀ fC fR, e < fC → e < fR → ASpec (F_LT_readAtom fC) (F_M_readAtom fR) (6 - e) (4 + 2 * e) := by
  intro e
  induction e with
  | zero =>
    intro _ fC fR hfC hfR b T K B E k s c st mC mR hC hR hs hst
    obtain ⟨fC, rfl⟩ : ∃ x, fC = x + 1 := ⟨fC - 1, by omega⟩
    obtain ⟨fR, rfl⟩ : ∃ x, fR = x + 1 := ⟨fR - 1, by omega⟩
    have tf := hC.1.tf
    have kK := hC.1.kK
    have eC : ∀ R, BC mC = R → F_LT_readAtom (fC + 1) (iI ((6 - 0 : Nat) : Int)) mC = R := by
      intro R h
      show F_LT_readAtom_b (F_LT_readAtom fC) (iI ((6 - 0 : Nat) : Int)) mC = R
      unfold F_LT_readAtom_b
      refine lt_go (fun k35 h35 => ?_)
      rw [if_pos (by decide), h35]
      dsimp only
      refine lt_go (fun k73 h73 => ?_)
      rw [if_pos (by decide), h73]
      exact h
    show ∃ ok mC' mR', F_LT_readAtom (fC + 1) (iI ((6 - 0 : Nat) : Int)) mC = some ((), mC') ∧ F_M_readAtom_b (F_M_readAtom fR) mR = some (ok, mR') ∧ Res true (4 + 2 * 0) b T K B E k s c st (6 - 0) mC mR ok mC' mR'
    obtain ⟨m1, e1, r1, r2, r3, r4⟩ := Rsign hR tf kK (x := 40) (by decide) (by omega) (by omega)
    by_cases hq : B k < T ∧ b (B k) = 40
    · obtain ⟨mC', t1, t2⟩ := deep_ok hC (Or.inl hq)
      refine ⟨false, mC', m1, eC _ t1, ?_, Or.inr ⟨rfl, _, t2, r3⟩⟩
      unfold F_M_readAtom_b
      rw [show (40 : Int32) = iI 40 from rfl, bnd_some e1, decide_eq_true hq, if_pos rfl, (r1 hq).2.2.2, if_pos (by decide)]
    · have hR1 := r2 hq
      obtain ⟨m2, e2, g1, g2, g3, g4⟩ := Rpass hR1 tf kK (tx := "not") (by decide) (by decide)
      by_cases hn : wm b (B k) (wrd b T (B k)) "not" = true
      · obtain ⟨mC', t1, t2⟩ := deep_ok hC (Or.inr hn)
        refine ⟨false, mC', m2, eC _ t1, ?_, Or.inr ⟨rfl, _, t2, g3⟩⟩
        unfold F_M_readAtom_b
        rw [show (40 : Int32) = iI 40 from rfl, bnd_some e1, decide_eq_false hq, if_neg (by decide), bnd_some e2, hn, if_pos rfl, (g1 hn).2.2.2, if_pos (by decide)]
      · have hn := wm_b hn
        have hR2 := g2 hn
        obtain ⟨ok, mC', mR', t1, t2, t3⟩ := base_ok hC hR2 hs hst
        refine ⟨ok, mC', mR', eC _ t1, ?_, ?_⟩
        · unfold F_M_readAtom_b
          rw [show (40 : Int32) = iI 40 from rfl, bnd_some e1, decide_eq_false hq, if_neg (by decide), bnd_some e2, hn, if_neg (by decide)]
          exact t2
        · rcases t3 with ⟨rfl, k', cs, q1, q2, q3⟩ | ⟨rfl, f, q1, q2⟩
          · exact Or.inl ⟨rfl, k', cs, q1.base (Nat.le_refl _) (fun j => rfl) (fun j => (g4 j).trans (r4 j)), q2, q3⟩
          · exact Or.inr ⟨rfl, f, q1, q2⟩
  | succ e ih =>
    intro he fC fR hfC hfR b T K B E k s c st mC mR hC hR hs hst
    obtain ⟨fC, rfl⟩ : ∃ x, fC = x + 1 := ⟨fC - 1, by omega⟩
    obtain ⟨fR, rfl⟩ : ∃ x, fR = x + 1 := ⟨fR - 1, by omega⟩
    have hI := ih (by omega) fC fR (by omega) (by omega)
    obtain ⟨d, hd⟩ : ∃ d, d = 6 - (e + 1) := ⟨_, rfl⟩
    have hd1 : 6 - e = d + 1 := by omega
    rw [hd1] at hI
    rw [← hd] at hR ⊢
    have hd6 : ¬ (6 : Int32) ≤ iI d := by rw [show (6 : Int32) = iI 6 from rfl, iI_le (by omega) (by omega) (by omega) (by omega)]; omega
    have hdd : iI (d : Int) + (1 : Int32) = iI ((d + 1 : Nat) : Int) := by rw [lt1, iI_add]; rfl
    have tf := hC.1.tf
    have kK := hC.1.kK
    show ∃ ok mC' mR', F_LT_readAtom_b (F_LT_readAtom fC) (iI (d : Int)) mC = some ((), mC') ∧ F_M_readAtom_b (F_M_readAtom fR) mR = some (ok, mR') ∧ Res true (4 + 2 * (e + 1)) b T K B E k s c st d mC mR ok mC' mR'
    obtain ⟨m1, e1, r1, r2, r3, r4⟩ := Rsign hR tf kK (x := 40) (by decide) (by omega) (by omega)
    by_cases hn : wm b (B k) (wrd b T (B k)) "not" = true
    · -- not
      obtain ⟨hk0, hW, -⟩ := tf.word kK (by decide) hn
      have hq : ¬ (B k < T ∧ b (B k) = 40) := fun q => by have := isW_e.1 hW; omega
      have hR1 := r2 hq
      obtain ⟨m2, e2, g1, g2, g3, g4⟩ := Rpass hR1 tf kK (tx := "not") (by decide) (by decide)
      obtain ⟨hk, hR2⟩ := g1 hn
      rw [hn] at e2
      have e79 : ∀ j, gI (sI m2 78 12 (iI ((d + 1 : Nat) : Int))) 79 j = gI mR 79 j := fun j => by
        rw [gI_sI, if_neg (fun q => absurd q.1 (by decide))]
        exact (g4 j).trans (r4 j)
      obtain ⟨ok, mC2, mR2, p1, p2, p3⟩ := hI b T K B E (k + 1) s (c + 1) st _ _ (hC.nxt hk) (hR2.dp (dp' := d + 1)) (by omega) (by omega)
      have h12 : gI m2 78 12 = iI d := hR2.2.2
      have hne : ¬ iI (d : Int) = (6 : Int32) := by rw [show (6 : Int32) = iI 6 from rfl, iI_eq (by omega) (by omega) (by omega) (by omega)]; omega
      rcases p3 with ⟨rfl, k', cs, q1, q2, q3⟩ | ⟨rfl, f, q1, q2⟩
      · have q12 : gI mR2 78 12 = iI ((d + 1 : Nat) : Int) := q1.2.2.1.2.2
        have hB2 := (q1.base (k0' := k) (mC0' := mC) (mR0' := mR) (by omega) k58 e79).dp (dp' := d)
        obtain ⟨mC3, mR3, a1, a2, hB3⟩ := hB2.add hs hst (v := 1100) (by omega)
        refine ⟨true, mC3, mR3, ?_, ?_, Or.inl ⟨rfl, k', cs ++ [1100], hB3, Ty_not (Ty_wk q2 (by omega)) (by omega), by simp⟩⟩
        · unfold F_LT_readAtom_b
          refine lt_go (fun k35 h35 => ?_)
          rw [if_neg hd6, bnd_some (tW_t hC.1 (by decide) (by decide) hn), if_pos rfl, hdd, bnd_some p1, show (1100 : Int32) = iI 1100 from rfl, bnd_some a1]
        · unfold F_M_readAtom_b
          rw [show (40 : Int32) = iI 40 from rfl, bnd_some e1, decide_eq_false hq, if_neg (by decide), bnd_some e2, if_pos rfl, h12, if_neg hne, hdd, lt_def, bnd_some p2, if_pos rfl, q12, lt1, iI_sub, show ((d + 1 : Nat) : Int) - 1 = (d : Int) by omega, lt_def, show (12 : Int32) = iI (ms1 1100) from rfl, show (0 : Int32) = iI 0 from rfl, bnd_some a2]
      · obtain ⟨mC3, a1, hd3⟩ := Ladd_d q1 (1100 : Int32)
        refine ⟨false, mC3, mR2, ?_, ?_, Or.inr ⟨rfl, f, hd3, q2⟩⟩
        · unfold F_LT_readAtom_b
          refine lt_go (fun k35 h35 => ?_)
          rw [if_neg hd6, bnd_some (tW_t hC.1 (by decide) (by decide) hn), if_pos rfl, hdd, bnd_some p1, bnd_some a1]
        · unfold F_M_readAtom_b
          rw [show (40 : Int32) = iI 40 from rfl, bnd_some e1, decide_eq_false hq, if_neg (by decide), bnd_some e2, if_pos rfl, h12, if_neg hne, hdd, lt_def, bnd_some p2, if_neg (by decide)]
    · have hn := wm_b hn
      by_cases hq : B k < T ∧ b (B k) = 40
      · -- in brackets
        obtain ⟨hk, hR1⟩ := r1 hq
        have e79 : ∀ j, gI (sI m1 78 12 (iI ((d + 1 : Nat) : Int))) 79 j = gI mR 79 j := fun j => by
          rw [gI_sI, if_neg (fun q => absurd q.1 (by decide))]
          exact r4 j
        have hS := any_ok (all_ok hI (by omega)) (by omega)
        obtain ⟨ok, mC2, mR2, p1, p2, p3⟩ := hS b T K B E (k + 1) s (c + 1) st _ _ (hC.nxt hk) (hR1.dp (dp' := d + 1)) (by omega) (by omega)
        have h12 : gI m1 78 12 = iI d := hR1.2.2
        have hne : ¬ iI (d : Int) = (6 : Int32) := by rw [show (6 : Int32) = iI 6 from rfl, iI_eq (by omega) (by omega) (by omega) (by omega)]; omega
        have eC : ∀ R, (bnd (F_Tx_takesSignL (41 : Int32) mC2) fun zq44 mq42 => if zq44 = true then (some ((), mq42)) else (bnd (F_Tx_setWrongL mq42) fun _ mq45 => some ((), mq45))) = R → F_LT_readAtom_b (F_LT_readAtom fC) (iI (d : Int)) mC = R := by
          intro R h
          unfold F_LT_readAtom_b
          refine lt_go (fun k35 h35 => ?_)
          rw [if_neg hd6, bnd_some (tW_f hC.1 (by decide) (by decide) hn), if_neg (by decide), h35]
          dsimp only
          refine lt_go (fun k73 h73 => ?_)
          rw [if_neg hd6, show (40 : Int32) = iI 40 from rfl, bnd_some (Csign hC (by decide) (by omega) (by omega) hq), if_pos rfl, hdd, bnd_some p1]
          exact h
        rcases p3 with ⟨rfl, k', cs, q1, q2, q3⟩ | ⟨rfl, f, q1, q2⟩
        · have q12 : gI mR2 78 12 = iI ((d + 1 : Nat) : Int) := q1.2.2.1.2.2
          have hB2 := (q1.base (k0' := k) (mC0' := mC) (mR0' := mR) (by omega) k58 e79).dp (dp' := d)
          obtain ⟨b1, b2, b3, b4, b5, b6, b7⟩ := id hB2
          have kK' := b2.1.kK
          obtain ⟨m3, e3, g1, g2, g3, g4⟩ := Rsign b3 tf kK' (x := 41) (by decide) (by omega) (by omega)
          have eR : ∀ z, z = decide (B k' < T ∧ b (B k') = 41) → F_M_readAtom_b (F_M_readAtom fR) mR = some (z, m3) := by
            intro z hz
            unfold F_M_readAtom_b
            rw [show (40 : Int32) = iI 40 from rfl, bnd_some e1, decide_eq_true hq, if_pos rfl, h12, if_neg hne, hdd, lt_def, bnd_some p2, if_pos rfl, q12, lt1, iI_sub, show ((d + 1 : Nat) : Int) - 1 = (d : Int) by omega, lt_def, show (41 : Int32) = iI 41 from rfl, bnd_some e3, hz]
          by_cases hq2 : B k' < T ∧ b (B k') = 41
          · obtain ⟨hk2, hR3⟩ := g1 hq2
            refine ⟨true, sI mC2 52 5 (iI (k' + 1 : Nat)), m3, eC _ ?_, eR true (decide_eq_true hq2).symm, Or.inl ⟨rfl, k' + 1, cs, ⟨by omega, b2.nxt hk2, hR3.wk (by omega), RowIs_congr k58 b4, fun j hj => (k58 j).trans (b5 j hj), MRow_congr (fun j => g4 _) b6, fun j hj => (g4 j).trans (b7 j hj)⟩, Ty_wk q2 (by omega), q3⟩⟩
            rw [show (41 : Int32) = iI 41 from rfl, bnd_some (Csign b2 (by decide) (by omega) (by omega) hq2), if_pos rfl]
          · refine ⟨false, _, m3, eC _ ?_, eR false (decide_eq_false hq2).symm, Or.inr ⟨rfl, _, ddL_set b2.1, g3⟩⟩
            rw [show (41 : Int32) = iI 41 from rfl, bnd_some (Csign_f b2 (by decide) (by omega) (by omega) hq2), if_neg (by decide), bnd_some (setWrongL_eq b2.1)]
        · refine ⟨false, mC2, mR2, eC _ ?_, ?_, Or.inr ⟨rfl, f, q1, q2⟩⟩
          · rw [bnd_some (takesSignL_d q1 _), if_neg (by decide), bnd_some (setWrongL_d q1)]
          · unfold F_M_readAtom_b
            rw [show (40 : Int32) = iI 40 from rfl, bnd_some e1, decide_eq_true hq, if_pos rfl, h12, if_neg hne, hdd, lt_def, bnd_some p2, if_neg (by decide)]
      · have hR1 := r2 hq
        obtain ⟨m2, e2, g1, g2, g3, g4⟩ := Rpass hR1 tf kK (tx := "not") (by decide) (by decide)
        rw [hn] at e2
        have hR2 := g2 hn
        obtain ⟨ok, mC', mR', t1, t2, t3⟩ := base_ok hC hR2 hs hst
        refine ⟨ok, mC', mR', ?_, ?_, ?_⟩
        · unfold F_LT_readAtom_b
          refine lt_go (fun k35 h35 => ?_)
          rw [if_neg hd6, bnd_some (tW_f hC.1 (by decide) (by decide) hn), if_neg (by decide), h35]
          dsimp only
          refine lt_go (fun k73 h73 => ?_)
          rw [if_neg hd6, show (40 : Int32) = iI 40 from rfl, bnd_some (Csign_f hC (by decide) (by omega) (by omega) hq), if_neg (by decide), h73]
          exact t1
        · unfold F_M_readAtom_b
          rw [show (40 : Int32) = iI 40 from rfl, bnd_some e1, decide_eq_false hq, if_neg (by decide), bnd_some e2, if_neg (by decide)]
          exact t2
        · rcases t3 with ⟨rfl, k', cs, q1, q2, q3⟩ | ⟨rfl, f, q1, q2⟩
          · exact Or.inl ⟨rfl, k', cs, q1.base (Nat.le_refl _) (fun j => rfl) (fun j => (g4 j).trans (r4 j)), Ty_wk q2 (by omega), q3⟩
          · exact Or.inr ⟨rfl, f, q1, q2⟩
/-- a condition, as a line of the law has it -/
theorem cond_ok : ASpec (F_LT_readAny (F_LT_readAtom 8)) (F_M_readCond (F_M_readAtom 8)) 0 18 := any_ok (all_ok (atom_ok 6 (by omega) 8 8 (by omega) (by omega)) (by omega)) (by omega)
end LAWA
