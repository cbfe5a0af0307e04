section LAWQ
/-- codes cs have come, in class and reference, from a place on -/
def Acc (b : Nat → Int) (T K : Nat) (B E : Nat → Nat) (k0 s c st dp : Nat) (mC0 mR0 mC mR : Mem) (k : Nat) (cs : List Int) : Prop := k0 < k ∧ CA mC b T K B E k (s + cs.length) ∧ RA mR b T (B k) (c + cs.length) (st + cs.length) dp ∧ RowIs mC 58 s cs ∧ (∀ j, j < s → gI mC 58 j = gI mC0 58 j) ∧ MRow mR 79 1172 st cs ∧ ∀ j, j < 1172 + 2 * st → gI mR 79 j = gI mR0 79 j
def Res (kn : Bool) (h : Nat) (b : Nat → Int) (T K : Nat) (B E : Nat → Nat) (k s c st dp : Nat) (mC mR : Mem) (ok : Bool) (mC' mR' : Mem) : Prop := (ok = true ∧ ∃ (k' : Nat) (cs : List Int), Acc b T K B E k s c st dp mC mR mC' mR' k' cs ∧ Ty kn h cs ∧ cs ≠ []) ∨ (ok = false ∧ ∃ f, DDL mC' f ∧ gI mR' 78 11 = iI f)
theorem Acc.base {b : Nat → Int} {T K : Nat} {B E : Nat → Nat} {k0 k0' s c st dp k : Nat} {mC0 mR0 mC0' mR0' mC mR : Mem} {cs : List Int} (h : Acc b T K B E k0 s c st dp mC0 mR0 mC mR k cs) (hk : k0' ≤ k0) (hC : ∀ j, gI mC0 58 j = gI mC0' 58 j) (hR : ∀ j, gI mR0 79 j = gI mR0' 79 j) : Acc b T K B E k0' s c st dp mC0' mR0' mC mR k cs := by
  obtain ⟨h1, h2, h3, h4, h5, h6, h7⟩ := h
  exact ⟨by omega, h2, h3, h4, fun j hj => (h5 j hj).trans (hC j), h6, fun j hj => (h7 j hj).trans (hR j)⟩
theorem Acc.mr {b : Nat → Int} {T K : Nat} {B E : Nat → Nat} {k0 s c st dp k : Nat} {mC0 mR0 mC mR mR' : Mem} {cs : List Int} (h : Acc b T K B E k0 s c st dp mC0 mR0 mC mR k cs) (hr : RA mR' b T (B k) (c + cs.length) (st + cs.length) dp) (e : ∀ j, gI mR' 79 j = gI mR 79 j) : Acc b T K B E k0 s c st dp mC0 mR0 mC mR' k cs := by
  obtain ⟨h1, h2, h3, h4, h5, h6, h7⟩ := h
  exact ⟨h1, h2, hr, h4, h5, MRow_congr (fun j => e _) h6, fun j hj => (e j).trans (h7 j hj)⟩
theorem Acc.app {b : Nat → Int} {T K : Nat} {B E : Nat → Nat} {k0 s c st dp k1 k2 : Nat} {mC0 mR0 mC1 mR1 mC2 mR2 : Mem} {a d : List Int} (h : Acc b T K B E k0 s c st dp mC0 mR0 mC1 mR1 k1 a) (h' : Acc b T K B E k1 (s + a.length) (c + a.length) (st + a.length) dp mC1 mR1 mC2 mR2 k2 d) : Acc b T K B E k0 s c st dp mC0 mR0 mC2 mR2 k2 (a ++ d) := by
  obtain ⟨h1, h2, h3, h4, h5, h6, h7⟩ := h
  obtain ⟨g1, g2, g3, g4, g5, g6, g7⟩ := h'
  refine ⟨by omega, ?_, ?_, ?_, fun j hj => (g5 j (by omega)).trans (h5 j hj), ?_, fun j hj => (g7 j (by omega)).trans (h7 j hj)⟩
  · rw [List.length_append, ← Nat.add_assoc]; exact g2
  · rw [List.length_append, ← Nat.add_assoc, ← Nat.add_assoc]; exact g3
  · exact RowIs_app.2 ⟨RowIs_cg (fun j hj => g5 _ (by omega)) h4, g4⟩
  · exact MRow_app.2 ⟨MRow_cg (N := 2 * (st + a.length)) (fun j hj => g7 _ (by omega)) (by omega) h6, g6⟩
theorem Acc.add {b : Nat → Int} {T K : Nat} {B E : Nat → Nat} {k0 s c st dp k : Nat} {mC0 mR0 mC mR : Mem} {a : List Int} (h : Acc b T K B E k0 s (c + 1) st dp mC0 mR0 mC mR k a) (hs : s + 3 ≤ c) (hst : st + 4 ≤ c) {v : Int} (hv : 1000 ≤ v) : ∃ mC' mR', F_Lw_add (iI v) mC = some ((), mC') ∧ F_M_emits (iI (ms1 v)) (iI 0) mR = some ((), mR') ∧ Acc b T K B E k0 s c st dp mC0 mR0 mC' mR' k (a ++ [v]) := by
  obtain ⟨h1, h2, h3, h4, h5, h6, h7⟩ := h
  have c4 := h3.c4
  obtain ⟨mC', e1, g1, g2, g3⟩ := Ladd_ok h2 (by omega) v
  obtain ⟨mR', e2, r1, r2, r3, r4, r5⟩ := Memit_ok h3 (by omega) (iI (ms1 v)) (iI 0)
  refine ⟨mC', mR', e1, e2, h1, ?_, ?_, ?_, fun j hj => (g3 j (by omega)).trans (h5 j hj), ?_, fun j hj => (r4 j (by omega)).trans (h7 j hj)⟩
  · rw [List.length_append]; exact g1
  · rw [List.length_append, List.length_singleton, show c + (a.length + 1) = c + 1 + a.length by omega]; exact r1
  · exact RowIs_app.2 ⟨RowIs_cg (fun j hj => g3 _ (by omega)) h4, g2, trivial⟩
  · refine MRow_app.2 ⟨MRow_cg (N := 2 * (st + a.length)) (fun j hj => r4 _ (by omega)) (by omega) h6, r2, ?_, trivial⟩
    rw [r3]
    unfold ms2
    rw [if_neg (by omega)]
theorem Rsign {b : Nat → Int} {T K : Nat} {B E : Nat → Nat} {mR : Mem} {k c st dp : Nat} (h : RA mR b T (B k) c st dp) (tf : TF b T K B E) (kK : k ≤ K) {x : Int} (hx : kdB x = 2) (x0 : 0 ≤ x) (x1 : x ≤ 127) : ∃ mR', F_M_sign (iI x) mR = some (decide (B k < T ∧ b (B k) = x), mR') ∧ ((B k < T ∧ b (B k) = x) → k < K ∧ RA mR' b T (B (k + 1)) (c + 1) st dp) ∧ (¬ (B k < T ∧ b (B k) = x) → RA mR' b T (B k) c st dp) ∧ gI mR' 78 11 = iI (B k) ∧ ∀ j, gI mR' 79 j = gI mR 79 j := by
  obtain ⟨⟨p, p1, p2, p3⟩, p4, p5⟩ := id h
  obtain ⟨m', e, r, g, f⟩ := Msign_ok p3 x0 x1
  rw [p2] at e r g
  refine ⟨m', e, fun q => ?_, fun q => ?_, g, fun j => f.gI (by simp) (by simp)⟩
  · rw [if_pos q] at r
    have hk : k < K := by
      by_cases w : k < K
      · exact w
      · have q1 := q.1
        rw [show k = K by omega, tf.bK] at q1
        omega
    refine ⟨hk, h.go tf hk ?_ f⟩
    have hE : E k = B k + 1 := by
      rw [tf.en k hk]
      unfold tnd
      rw [if_neg (fun w => by have := kdB_w.2 w; rw [q.2, hx] at this; omega), if_neg (fun w => by have := kdB_d.2 w; rw [q.2, hx] at this; omega)]
    rw [hE]
    exact r
  · rw [if_neg q] at r
    exact h.stay tf kK r f
theorem Csign {b : Nat → Int} {T K : Nat} {B E : Nat → Nat} {mC : Mem} {k s : Nat} (h : CA mC b T K B E k s) {x : Int} (hx : kdB x = 2) (x0 : 0 ≤ x) (x1 : x ≤ 127) (hq : B k < T ∧ b (B k) = x) : F_Tx_takesSignL (iI x) mC = some (true, sI mC 52 5 (iI (k + 1 : Nat))) := by
  rw [takesSignL_eq h.1 hx x0 x1, decide_eq_true hq, if_pos hq]
theorem Csign_f {b : Nat → Int} {T K : Nat} {B E : Nat → Nat} {mC : Mem} {k s : Nat} (h : CA mC b T K B E k s) {x : Int} (hx : kdB x = 2) (x0 : 0 ≤ x) (x1 : x ≤ 127) (hq : ¬ (B k < T ∧ b (B k) = x)) : F_Tx_takesSignL (iI x) mC = some (false, mC) := by
  rw [takesSignL_eq h.1 hx x0 x1, decide_eq_false hq, if_neg hq]
theorem Rpass {b : Nat → Int} {T K : Nat} {B E : Nat → Nat} {mR : Mem} {k c st dp : Nat} (h : RA mR b T (B k) c st dp) (tf : TF b T K B E) (kK : k ≤ K) {tx : String} (hl : tx.length ≤ 20) (hl0 : 0 < tx.length) : ∃ mR', F_M_passes tx mR = some (wm b (B k) (wrd b T (B k)) tx, mR') ∧ (wm b (B k) (wrd b T (B k)) tx = true → k < K ∧ RA mR' b T (B (k + 1)) (c + 1) st dp) ∧ (wm b (B k) (wrd b T (B k)) tx = false → RA mR' b T (B k) c st dp) ∧ gI mR' 78 11 = iI (B k) ∧ ∀ j, gI mR' 79 j = gI mR 79 j := by
  obtain ⟨⟨p, p1, p2, p3⟩, p4, p5⟩ := id h
  obtain ⟨m', e, r, g, f⟩ := Mpasses_ok p3 hl
  rw [p2] at e r g
  refine ⟨m', e, fun q => ?_, fun q => ?_, g, fun j => f.gI (by simp) (by simp)⟩
  · rw [if_pos q] at r
    obtain ⟨hk, hW, hE⟩ := tf.word kK hl0 q
    exact ⟨hk, h.go tf hk (by rw [hE]; exact r) f⟩
  · rw [q, if_neg (by decide)] at r
    exact h.stay tf kK r f
theorem k58 {mC : Mem} {v : Int32} (j : Nat) : gI (sI mC 52 5 v) 58 j = gI mC 58 j := by rw [gI_sI, if_neg (fun q => absurd q.1 (by decide))]
/-- more parts of a sum -/
theorem sumB {b : Nat → Int} {T K : Nat} {B E : Nat → Nat} {k0 s c st dp : Nat} {mC0 mR0 : Mem} (hs : s + 3 ≤ c) (hst : st + 4 ≤ c) : ∀ (n k i nfC nfR : Nat) (mC mR : Mem) (a : List Int), K - k ≤ n → n + 1 < nfC → n + 1 < nfR → i < k → Acc b T K B E k0 s c st dp mC0 mR0 mC mR k a → Ty false 3 a → a ≠ [] → ∃ ok mC' mR', (bnd (F_Tx_takesSignL (43 : Int32) mC) fun zq13 mq11 => lt (iI i + (1 : Int32) : Int32) fun xq14 => F_LT_readSum_L4 nfC zq13 xq14 mq11) = some ((), mC') ∧ F_M_readSum_L9 nfR mR = some (ok, mR') ∧ Res false 3 b T K B E k0 s c st dp mC0 mR0 ok mC' mR' := by
  intro n
  induction n with
  | zero =>
    intro k i nfC nfR mC mR a hn hC hR hi hA hT ha
    obtain ⟨nfC, rfl⟩ : ∃ x, nfC = x + 1 := ⟨nfC - 1, by omega⟩
    obtain ⟨nfR, rfl⟩ : ∃ x, nfR = x + 1 := ⟨nfR - 1, by omega⟩
    obtain ⟨h1, h2, h3, h4, h5, h6, h7⟩ := id hA
    have tf := h2.1.tf
    have kK := h2.1.kK
    have hq : ¬ (B k < T ∧ b (B k) = 43) := fun q => by
      have q1 := q.1
      rw [show k = K by omega, tf.bK] at q1
      omega
    obtain ⟨mR', e2, r1, r2, r3, r4⟩ := Rsign h3 tf kK (x := 43) (by decide) (by omega) (by omega)
    refine ⟨true, mC, mR', ?_, ?_, Or.inl ⟨rfl, k, a, hA.mr (r2 hq) r4, hT, ha⟩⟩
    · rw [show (43 : Int32) = iI 43 from rfl, bnd_some (Csign_f h2 (by decide) (by omega) (by omega) hq), lt_def, F_LT_readSum_L4]
      by_cases hx : (400 : Int32) ≤ iI i + 1
      · rw [if_pos hx]
      · rw [if_neg hx, if_neg (by decide)]
    · rw [F_M_readSum_L9, show (43 : Int32) = iI 43 from rfl, bnd_some e2, decide_eq_false hq, if_neg (by decide)]
  | succ n ih =>
    intro k i nfC nfR mC mR a hn hC hR hi hA hT ha
    obtain ⟨nfC, rfl⟩ : ∃ x, nfC = x + 1 := ⟨nfC - 1, by omega⟩
    obtain ⟨nfR, rfl⟩ : ∃ x, nfR = x + 1 := ⟨nfR - 1, by omega⟩
    obtain ⟨h1, h2, h3, h4, h5, h6, h7⟩ := id hA
    have tf := h2.1.tf
    have kK := h2.1.kK
    have kT := tf.kT
    have t4 := tf.t4
    obtain ⟨mR', e2, r1, r2, r3, r4⟩ := Rsign h3 tf kK (x := 43) (by decide) (by omega) (by omega)
    by_cases hq : B k < T ∧ b (B k) = 43
    · obtain ⟨hk, hR1⟩ := r1 hq
      have hC1 := h2.nxt hk
      obtain ⟨ok, mC2, mR2, zq, p1, p2, p3, p4⟩ := part_ok (mC := sI mC 52 5 (iI (k + 1 : Nat))) hC1 hR1 (by omega) (by omega)
      have eC : ∀ R, (∀ k176 : Mem → Option (Unit × Mem), (k176 = fun (mq9 : Mem) => ((lt (fun (mq10 : Mem) => ((bnd (F_Tx_takesSignL (43 : Int32) mq10) fun zq13 mq11 => lt (iI ((i + 1 : Nat) : Int) + (1 : Int32) : Int32) fun xq14 => F_LT_readSum_L4 nfC zq13 xq14 mq11) : Option (Unit × Mem))) fun k190_10 => if iI ((i + 1 : Nat) : Int) ≤ 0 then (k190_10 mq9) else (bnd (F_Lw_add (1105 : Int32) mq9) fun _ mq15 => k190_10 mq15)) : Option (Unit × Mem))) → k176 mC2 = R) → (bnd (F_Tx_takesSignL (43 : Int32) mC) fun zq13 mq11 => lt (iI i + (1 : Int32) : Int32) fun xq14 => F_LT_readSum_L4 (nfC + 1) zq13 xq14 mq11) = R := by
        intro R hk
        rw [show (43 : Int32) = iI 43 from rfl, bnd_some (Csign h2 (by decide) (by omega) (by omega) hq), lt_def, lt1, iI_add, show ((i : Int) + 1) = ((i + 1 : Nat) : Int) by omega, F_LT_readSum_L4, if_neg (by rw [lt400, iI_le (by omega) (by omega) (by omega) (by omega)]; omega), if_pos rfl, bnd_some p1]
        refine lt_go (fun k176 h176 => ?_)
        exact (p2 k176).trans (hk k176 h176)
      rcases p4 with ⟨rfl, hk2, x, x0, x1, q1, q2, q3, q4, q5, q6, q7⟩ | ⟨rfl, q1, q2⟩
      · have hB1 : Acc b T K B E (k + 1) (s + a.length) (c + a.length + 1) (st + a.length) dp (sI mC 52 5 (iI (k + 1 : Nat))) mR' mC2 mR2 (k + 1 + 1) [x] := ⟨by omega, q1, q2, ⟨q3, trivial⟩, q4, ⟨q5, q6, trivial⟩, q7⟩
        have hB2 := hB1.base (k0' := k) (mC0' := mC) (mR0' := mR) (by omega) k58 r4
        obtain ⟨mC3, mR3, a1, a2, hB3⟩ := hB2.add (by omega) (by omega) (v := 1105) (by omega)
        have hB4 := hA.app hB3
        obtain ⟨ok, mC4, mR4, i1, i2, i3⟩ := ih (k + 1 + 1) (i + 1) nfC nfR mC3 mR3 (a ++ [x, 1105]) (by omega) (by omega) (by omega) (by omega) hB4 (Ty_plus hT x0 x1) (by simp)
        refine ⟨ok, mC4, mR4, eC _ (fun k176 h176 => ?_), ?_, i3⟩
        · rw [h176]
          dsimp only
          refine lt_go (fun k190 h190 => ?_)
          rw [if_neg (by rw [lt0, iI_le (by omega) (by omega) (by omega) (by omega)]; omega), show (1105 : Int32) = iI 1105 from rfl, bnd_some a1, h190]
          exact i1
        · rw [F_M_readSum_L9, show (43 : Int32) = iI 43 from rfl, bnd_some e2, decide_eq_true hq, if_pos rfl, bnd_some p3, if_pos rfl, show (9 : Int32) = iI (ms1 1105) from rfl, show (0 : Int32) = iI 0 from rfl, bnd_some a2]
          exact i2
      · obtain ⟨mC3, a1, hd3⟩ := Ladd_d q1 (1105 : Int32)
        refine ⟨false, mC3, mR2, eC _ (fun k176 h176 => ?_), ?_, Or.inr ⟨rfl, _, hd3, q2⟩⟩
        · rw [h176]
          dsimp only
          refine lt_go (fun k190 h190 => ?_)
          rw [if_neg (by rw [lt0, iI_le (by omega) (by omega) (by omega) (by omega)]; omega), bnd_some a1, h190]
          dsimp only
          obtain ⟨nfC, rfl⟩ : ∃ x, nfC = x + 1 := ⟨nfC - 1, by omega⟩
          rw [bnd_some (takesSignL_d hd3 _), lt_def, F_LT_readSum_L4]
          by_cases hx : (400 : Int32) ≤ iI ((i + 1 : Nat) : Int) + 1
          · rw [if_pos hx]
          · rw [if_neg hx, if_neg (by decide)]
        · rw [F_M_readSum_L9, show (43 : Int32) = iI 43 from rfl, bnd_some e2, decide_eq_true hq, if_pos rfl, bnd_some p3, if_neg (by decide)]
    · refine ⟨true, mC, mR', ?_, ?_, Or.inl ⟨rfl, k, a, hA.mr (r2 hq) r4, hT, ha⟩⟩
      · rw [show (43 : Int32) = iI 43 from rfl, bnd_some (Csign_f h2 (by decide) (by omega) (by omega) hq), lt_def, F_LT_readSum_L4]
        by_cases hx : (400 : Int32) ≤ iI i + 1
        · rw [if_pos hx]
        · rw [if_neg hx, if_neg (by decide)]
      · rw [F_M_readSum_L9, show (43 : Int32) = iI 43 from rfl, bnd_some e2, decide_eq_false hq, if_neg (by decide)]
/-- a sum whose first part is wrong -/
theorem sumC_d {mC mC2 : Mem} {f : Nat} {zq : Bool} (p1 : F_Tx_isAtNumberL mC = some (zq, mC)) (p2 : ∀ kk, PC kk zq mC = kk mC2) (hd : DDL mC2 f) : F_LT_readSum mC = some ((), mC2) := by
  obtain ⟨N, hN⟩ : ∃ N : Nat, N = 1000000 := ⟨_, rfl⟩
  unfold F_LT_readSum
  rw [← hN]
  obtain ⟨N', rfl⟩ : ∃ x, N = x + 1 + 1 := ⟨999998, by omega⟩
  rw [F_LT_readSum_L4, if_neg (by decide), if_pos rfl, bnd_some p1]
  refine lt_go (fun k176 h176 => ?_)
  refine (p2 k176).trans ?_
  rw [h176]
  dsimp only
  refine lt_go (fun k190 h190 => ?_)
  rw [if_pos (by decide), h190]
  dsimp only
  rw [bnd_some (takesSignL_d hd _), lt_def, F_LT_readSum_L4, if_neg (by decide), if_neg (by decide)]
theorem sum_d {mC : Mem} {f : Nat} (hd : DDL mC f) : F_LT_readSum mC = some ((), mC) := sumC_d (isAtNL_d hd) (fun kk => PC_d hd kk) hd
/-- a sum -/
theorem sum_ok {b : Nat → Int} {T K : Nat} {B E : Nat → Nat} {k s c st dp : Nat} {mC mR : Mem} (hC : CA mC b T K B E k s) (hR : RA mR b T (B k) c st dp) (hs : s + 3 ≤ c) (hst : st + 4 ≤ c) : ∃ ok mC' mR', F_LT_readSum mC = some ((), mC') ∧ F_M_readSum mR = some (ok, mR') ∧ Res false 3 b T K B E k s c st dp mC mR ok mC' mR' := by
  have tf := hC.1.tf
  have kK := hC.1.kK
  have kT := tf.kT
  have t4 := tf.t4
  obtain ⟨ok, mC2, mR2, zq, p1, p2, p3, p4⟩ := part_ok hC hR hs hst
  obtain ⟨N, hN⟩ : ∃ N : Nat, N = 1000000 := ⟨_, rfl⟩
  rcases p4 with ⟨rfl, hk2, x, x0, x1, q1, q2, q3, q4, q5, q6, q7⟩ | ⟨rfl, q1, q2⟩
  · have hA : Acc b T K B E k s c st dp mC mR mC2 mR2 (k + 1) [x] := ⟨by omega, q1, q2, ⟨q3, trivial⟩, q4, ⟨q5, q6, trivial⟩, q7⟩
    obtain ⟨N', hN'⟩ : ∃ x, N = x + 1 := ⟨999999, by omega⟩
    obtain ⟨ok, mC4, mR4, i1, i2, i3⟩ := sumB hs hst (K - (k + 1)) (k + 1) 0 N' N mC2 mR2 [x] (Nat.le_refl _) (by omega) (by omega) (by omega) hA (Ty_num x0 x1) (by simp)
    refine ⟨ok, mC4, mR4, ?_, ?_, i3⟩
    · unfold F_LT_readSum
      rw [← hN, hN', F_LT_readSum_L4, if_neg (by decide), if_pos rfl, bnd_some p1]
      refine lt_go (fun k176 h176 => ?_)
      refine (p2 k176).trans ?_
      rw [h176]
      dsimp only
      refine lt_go (fun k190 h190 => ?_)
      rw [if_pos (by decide), h190]
      exact i1
    · unfold F_M_readSum
      rw [← hN, bnd_some p3, if_pos rfl]
      exact i2
  · refine ⟨false, mC2, mR2, sumC_d p1 p2 q1, ?_, Or.inr ⟨rfl, _, q1, q2⟩⟩
    unfold F_M_readSum
    rw [bnd_some p3, if_neg (by decide)]
def ASpec (fC : Int32 → Mem → Option (Unit × Mem)) (fR : Mem → Option (Bool × Mem)) (d h : Nat) : Prop := ∀ (b : Nat → Int) (T K : Nat) (B E : Nat → Nat) (k s c st : Nat) (mC mR : Mem), CA mC b T K B E k s → RA mR b T (B k) c st d → s + 3 ≤ c → st + 4 ≤ c → ∃ ok mC' mR', fC (iI d) mC = some ((), mC') ∧ fR mR = some (ok, mR') ∧ Res true h b T K B E k s c st d mC mR ok mC' mR'
/-- and, one behind another -/
theorem all_loop {b : Nat → Int} {T K : Nat} {B E : Nat → Nat} {fC : Int32 → Mem → Option (Unit × Mem)} {fR : Mem → Option (Bool × Mem)} {d h : Nat} (hA : ASpec (fC) (fR) d h) (h4 : 2 ≤ h) {k0 s c st : Nat} {mC0 mR0 : Mem} (hs : s + 3 ≤ c) (hst : st + 4 ≤ c) : ∀ (n k i nfC nfR : Nat) (mC mR : Mem) (a : List Int), K - k ≤ n → n + 1 < nfC → n + 1 < nfR → i < k → Acc b T K B E k0 s c st d mC0 mR0 mC mR k a → Ty true (h + 1) a → a ≠ [] → ∃ ok mC' mR', F_LT_readAll_L7 fC (iI d) nfC (iI i) mC = some ((), mC') ∧ F_M_readAllOf_L9 fR nfR mR = some (ok, mR') ∧ Res true (h + 1) b T K B E k0 s c st d mC0 mR0 ok mC' mR' := by
  intro n
  induction n with
  | zero =>
    intro k i nfC nfR mC mR a hn hC hR hi hA' hT ha
    obtain ⟨nfC, rfl⟩ : ∃ x, nfC = x + 1 := ⟨nfC - 1, by omega⟩
    obtain ⟨nfR, rfl⟩ : ∃ x, nfR = x + 1 := ⟨nfR - 1, by omega⟩
    obtain ⟨h1, h2, h3, h4, h5, h6, h7⟩ := id hA'
    have tf := h2.1.tf
    have kK := h2.1.kK
    have hw : wm b (B k) (wrd b T (B k)) "and" = false := wm_b (fun q => by have := (tf.word kK (by decide) q).1; omega)
    obtain ⟨mR', e2, r1, r2, r3, r4⟩ := Rpass h3 tf kK (tx := "and") (by decide) (by decide)
    rw [hw] at e2
    refine ⟨true, mC, mR', ?_, ?_, Or.inl ⟨rfl, k, a, hA'.mr (r2 hw) r4, hT, ha⟩⟩
    · rw [F_LT_readAll_L7]
      by_cases hx : (400 : Int32) ≤ iI i
      · rw [if_pos hx]
      · rw [if_neg hx, bnd_some (tW_f h2.1 (by decide) (by decide) hw), if_neg (by decide)]
    · rw [F_M_readAllOf_L9, bnd_some e2, if_neg (by decide)]
  | succ n ih =>
    intro k i nfC nfR mC mR a hn hC hR hi hA' hT ha
    obtain ⟨nfC, rfl⟩ : ∃ x, nfC = x + 1 := ⟨nfC - 1, by omega⟩
    obtain ⟨nfR, rfl⟩ : ∃ x, nfR = x + 1 := ⟨nfR - 1, by omega⟩
    obtain ⟨h1, h2, h3, h4', h5, h6, h7⟩ := id hA'
    have tf := h2.1.tf
    have kK := h2.1.kK
    have kT := tf.kT
    have t4 := tf.t4
    obtain ⟨mR', e2, r1, r2, r3, r4⟩ := Rpass h3 tf kK (tx := "and") (by decide) (by decide)
    by_cases hw : wm b (B k) (wrd b T (B k)) "and" = true
    · obtain ⟨hk, hR1⟩ := r1 hw
      have hC1 := h2.nxt hk
      rw [hw] at e2
      obtain ⟨ok, mC2, mR2, p1, p2, p3⟩ := hA b T K B E (k + 1) (s + a.length) (c + a.length + 1) (st + a.length) _ _ hC1 hR1 (by omega) (by omega)
      rcases p3 with ⟨rfl, k', cs, q1, q2, q3⟩ | ⟨rfl, f, q1, q2⟩
      · have hB2 := q1.base (k0' := k) (mC0' := mC) (mR0' := mR) (by omega) k58 r4
        obtain ⟨mC3, mR3, a1, a2, hB3⟩ := hB2.add (by omega) (by omega) (v := 1101) (by omega)
        have hB4 := hA'.app hB3
        have hk' : k + 1 < k' := q1.1
        obtain ⟨ok, mC4, mR4, i1, i2, i3⟩ := ih k' (i + 1) nfC nfR mC3 mR3 (a ++ (cs ++ [1101])) (by omega) (by omega) (by omega) (by omega) hB4 (Ty_bin hT q2 (by omega) (by omega) (by omega) (by omega)) (by simp)
        refine ⟨ok, mC4, mR4, ?_, ?_, i3⟩
        · rw [F_LT_readAll_L7, if_neg (by rw [lt400, iI_le (by omega) (by omega) (by omega) (by omega)]; omega), bnd_some (tW_t h2.1 (by decide) (by decide) hw), if_pos rfl, bnd_some p1, show (1101 : Int32) = iI 1101 from rfl, bnd_some a1, lt_def, lt1, iI_add]
          exact i1
        · rw [F_M_readAllOf_L9, bnd_some e2, if_pos rfl, bnd_some p2, if_pos rfl, show (13 : Int32) = iI (ms1 1101) from rfl, show (0 : Int32) = iI 0 from rfl, bnd_some a2]
          exact i2
      · obtain ⟨mC3, a1, hd3⟩ := Ladd_d q1 (1101 : Int32)
        refine ⟨false, mC3, mR2, ?_, ?_, Or.inr ⟨rfl, _, hd3, q2⟩⟩
        · obtain ⟨nfC, rfl⟩ : ∃ x, nfC = x + 1 := ⟨nfC - 1, by omega⟩
          rw [F_LT_readAll_L7, if_neg (by rw [lt400, iI_le (by omega) (by omega) (by omega) (by omega)]; omega), bnd_some (tW_t h2.1 (by decide) (by decide) hw), if_pos rfl, bnd_some p1, bnd_some a1, lt_def, F_LT_readAll_L7]
          by_cases hx : (400 : Int32) ≤ iI i + 1
          · rw [if_pos hx]
          · rw [if_neg hx, bnd_some (takesWordL_d hd3 _), if_neg (by decide)]
        · rw [F_M_readAllOf_L9, bnd_some e2, if_pos rfl, bnd_some p2, if_neg (by decide)]
    · have hw := wm_b hw
      rw [hw] at e2
      refine ⟨true, mC, mR', ?_, ?_, Or.inl ⟨rfl, k, a, hA'.mr (r2 hw) r4, hT, ha⟩⟩
      · rw [F_LT_readAll_L7]
        by_cases hx : (400 : Int32) ≤ iI i
        · rw [if_pos hx]
        · rw [if_neg hx, bnd_some (tW_f h2.1 (by decide) (by decide) hw), if_neg (by decide)]
      · rw [F_M_readAllOf_L9, bnd_some e2, if_neg (by decide)]
theorem all_ok {fC : Int32 → Mem → Option (Unit × Mem)} {fR : Mem → Option (Bool × Mem)} {d h : Nat} (hA : ASpec (fC) (fR) d h) (h4 : 2 ≤ h) : ASpec (F_LT_readAll fC) (F_M_readAllOf fR) d (h + 1) := by
  intro b T K B E k s c st mC mR hC hR hs hst
  have tf := hC.1.tf
  have kK := hC.1.kK
  have kT := tf.kT
  have t4 := tf.t4
  obtain ⟨N, hN⟩ : ∃ N : Nat, N = 1000000 := ⟨_, rfl⟩
  obtain ⟨ok, mC2, mR2, p1, p2, p3⟩ := hA b T K B E k s c st mC mR hC hR hs hst
  unfold F_LT_readAll F_M_readAllOf
  rw [← hN]
  rcases p3 with ⟨rfl, k', cs, q1, q2, q3⟩ | ⟨rfl, f, q1, q2⟩
  · have hk' : k < k' := q1.1
    obtain ⟨ok, mC4, mR4, i1, i2, i3⟩ := all_loop hA h4 hs hst (K - k') k' 0 N N mC2 mR2 cs (Nat.le_refl _) (by omega) (by omega) (by omega) q1 (Ty_wk q2 (by omega)) q3
    refine ⟨ok, mC4, mR4, ?_, ?_, i3⟩
    · rw [bnd_some p1]
      exact i1
    · rw [bnd_some p2, if_pos rfl]
      exact i2
  · refine ⟨false, mC2, mR2, ?_, ?_, Or.inr ⟨rfl, f, q1, q2⟩⟩
    · obtain ⟨N', rfl⟩ : ∃ x, N = x + 1 := ⟨999999, by omega⟩
      rw [bnd_some p1, F_LT_readAll_L7, if_neg (by decide), bnd_some (takesWordL_d q1 _), if_neg (by decide)]
    · rw [bnd_some p2, if_neg (by decide)]
/-- or, one behind another -/
theorem any_loop {b : Nat → Int} {T K : Nat} {B E : Nat → Nat} {fC : Int32 → Mem → Option (Unit × Mem)} {fR : Mem → Option (Bool × Mem)} {d h : Nat} (hA : ASpec (F_LT_readAll fC) (F_M_readAllOf fR) d h) (h4 : 2 ≤ h) {k0 s c st : Nat} {mC0 mR0 : Mem} (hs : s + 3 ≤ c) (hst : st + 4 ≤ c) : ∀ (n k i nfC nfR : Nat) (mC mR : Mem) (a : List Int), K - k ≤ n → n + 1 < nfC → n + 1 < nfR → i < k → Acc b T K B E k0 s c st d mC0 mR0 mC mR k a → Ty true (h + 1) a → a ≠ [] → ∃ ok mC' mR', F_LT_readAny_L7 fC (iI d) nfC (iI i) mC = some ((), mC') ∧ F_M_readCond_L9 fR nfR mR = some (ok, mR') ∧ Res true (h + 1) b T K B E k0 s c st d mC0 mR0 ok mC' mR' := by
  intro n
  induction n with
  | zero =>
    intro k i nfC nfR mC mR a hn hC hR hi hA' hT ha
    obtain ⟨nfC, rfl⟩ : ∃ x, nfC = x + 1 := ⟨nfC - 1, by omega⟩
    obtain ⟨nfR, rfl⟩ : ∃ x, nfR = x + 1 := ⟨nfR - 1, by omega⟩
    obtain ⟨h1, h2, h3, h4, h5, h6, h7⟩ := id hA'
    have tf := h2.1.tf
    have kK := h2.1.kK
    have hw : wm b (B k) (wrd b T (B k)) "or" = false := wm_b (fun q => by have := (tf.word kK (by decide) q).1; omega)
    obtain ⟨mR', e2, r1, r2, r3, r4⟩ := Rpass h3 tf kK (tx := "or") (by decide) (by decide)
    rw [hw] at e2
    refine ⟨true, mC, mR', ?_, ?_, Or.inl ⟨rfl, k, a, hA'.mr (r2 hw) r4, hT, ha⟩⟩
    · rw [F_LT_readAny_L7]
      by_cases hx : (400 : Int32) ≤ iI i
      · rw [if_pos hx]
      · rw [if_neg hx, bnd_some (tW_f h2.1 (by decide) (by decide) hw), if_neg (by decide)]
    · rw [F_M_readCond_L9, bnd_some e2, if_neg (by decide)]
  | succ n ih =>
    intro k i nfC nfR mC mR a hn hC hR hi hA' hT ha
    obtain ⟨nfC, rfl⟩ : ∃ x, nfC = x + 1 := ⟨nfC - 1, by omega⟩
    obtain ⟨nfR, rfl⟩ : ∃ x, nfR = x + 1 := ⟨nfR - 1, by omega⟩
    obtain ⟨h1, h2, h3, h4', h5, h6, h7⟩ := id hA'
    have tf := h2.1.tf
    have kK := h2.1.kK
    have kT := tf.kT
    have t4 := tf.t4
    obtain ⟨mR', e2, r1, r2, r3, r4⟩ := Rpass h3 tf kK (tx := "or") (by decide) (by decide)
    by_cases hw : wm b (B k) (wrd b T (B k)) "or" = true
    · obtain ⟨hk, hR1⟩ := r1 hw
      have hC1 := h2.nxt hk
      rw [hw] at e2
      obtain ⟨ok, mC2, mR2, p1, p2, p3⟩ := hA b T K B E (k + 1) (s + a.length) (c + a.length + 1) (st + a.length) _ _ hC1 hR1 (by omega) (by omega)
      rcases p3 with ⟨rfl, k', cs, q1, q2, q3⟩ | ⟨rfl, f, q1, q2⟩
      · have hB2 := q1.base (k0' := k) (mC0' := mC) (mR0' := mR) (by omega) k58 r4
        obtain ⟨mC3, mR3, a1, a2, hB3⟩ := hB2.add (by omega) (by omega) (v := 1102) (by omega)
        have hB4 := hA'.app hB3
        have hk' : k + 1 < k' := q1.1
        obtain ⟨ok, mC4, mR4, i1, i2, i3⟩ := ih k' (i + 1) nfC nfR mC3 mR3 (a ++ (cs ++ [1102])) (by omega) (by omega) (by omega) (by omega) hB4 (Ty_bin hT q2 (by omega) (by omega) (by omega) (by omega)) (by simp)
        refine ⟨ok, mC4, mR4, ?_, ?_, i3⟩
        · rw [F_LT_readAny_L7, if_neg (by rw [lt400, iI_le (by omega) (by omega) (by omega) (by omega)]; omega), bnd_some (tW_t h2.1 (by decide) (by decide) hw), if_pos rfl, bnd_some p1, show (1102 : Int32) = iI 1102 from rfl, bnd_some a1, lt_def, lt1, iI_add]
          exact i1
        · rw [F_M_readCond_L9, bnd_some e2, if_pos rfl, bnd_some p2, if_pos rfl, show (14 : Int32) = iI (ms1 1102) from rfl, show (0 : Int32) = iI 0 from rfl, bnd_some a2]
          exact i2
      · obtain ⟨mC3, a1, hd3⟩ := Ladd_d q1 (1102 : Int32)
        refine ⟨false, mC3, mR2, ?_, ?_, Or.inr ⟨rfl, _, hd3, q2⟩⟩
        · obtain ⟨nfC, rfl⟩ : ∃ x, nfC = x + 1 := ⟨nfC - 1, by omega⟩
          rw [F_LT_readAny_L7, if_neg (by rw [lt400, iI_le (by omega) (by omega) (by omega) (by omega)]; omega), bnd_some (tW_t h2.1 (by decide) (by decide) hw), if_pos rfl, bnd_some p1, bnd_some a1, lt_def, F_LT_readAny_L7]
          by_cases hx : (400 : Int32) ≤ iI i + 1
          · rw [if_pos hx]
          · rw [if_neg hx, bnd_some (takesWordL_d hd3 _), if_neg (by decide)]
        · rw [F_M_readCond_L9, bnd_some e2, if_pos rfl, bnd_some p2, if_neg (by decide)]
    · have hw := wm_b hw
      rw [hw] at e2
      refine ⟨true, mC, mR', ?_, ?_, Or.inl ⟨rfl, k, a, hA'.mr (r2 hw) r4, hT, ha⟩⟩
      · rw [F_LT_readAny_L7]
        by_cases hx : (400 : Int32) ≤ iI i
        · rw [if_pos hx]
        · rw [if_neg hx, bnd_some (tW_f h2.1 (by decide) (by decide) hw), if_neg (by decide)]
      · rw [F_M_readCond_L9, bnd_some e2, if_neg (by decide)]
theorem any_ok {fC : Int32 → Mem → Option (Unit × Mem)} {fR : Mem → Option (Bool × Mem)} {d h : Nat} (hA : ASpec (F_LT_readAll fC) (F_M_readAllOf fR) d h) (h4 : 2 ≤ h) : ASpec (F_LT_readAny fC) (F_M_readCond fR) d (h + 1) := by
  intro b T K B E k s c st mC mR hC hR hs hst
  have tf := hC.1.tf
  have kK := hC.1.kK
  have kT := tf.kT
  have t4 := tf.t4
  obtain ⟨N, hN⟩ : ∃ N : Nat, N = 1000000 := ⟨_, rfl⟩
  obtain ⟨ok, mC2, mR2, p1, p2, p3⟩ := hA b T K B E k s c st mC mR hC hR hs hst
  unfold F_LT_readAny F_M_readCond
  rw [← hN]
  rcases p3 with ⟨rfl, k', cs, q1, q2, q3⟩ | ⟨rfl, f, q1, q2⟩
  · have hk' : k < k' := q1.1
    obtain ⟨ok, mC4, mR4, i1, i2, i3⟩ := any_loop hA h4 hs hst (K - k') k' 0 N N mC2 mR2 cs (Nat.le_refl _) (by omega) (by omega) (by omega) q1 (Ty_wk q2 (by omega)) q3
    refine ⟨ok, mC4, mR4, ?_, ?_, i3⟩
    · rw [bnd_some p1]
      exact i1
    · rw [bnd_some p2, if_pos rfl]
      exact i2
  · refine ⟨false, mC2, mR2, ?_, ?_, Or.inr ⟨rfl, f, q1, q2⟩⟩
    · obtain ⟨N', rfl⟩ : ∃ x, N = x + 1 := ⟨999999, by omega⟩
      rw [bnd_some p1, F_LT_readAny_L7, if_neg (by decide), bnd_some (takesWordL_d q1 _), if_neg (by decide)]
    · rw [bnd_some p2, if_neg (by decide)]
end LAWQ
