section GLINE
abbrev GLn : Type := Int × Int32 × Int32 × Int32 × Int32
/-- what a line of a ground's text does to the reference's row -/
def AP (ah : Bool) (w : Nat → Int32) (q : GLn) (w' : Nat → Int32) : Prop :=
  (q.1 = 0 ∧ ah = true ∧ ∃ a : Nat, 1 ≤ a ∧ a ≤ 9 ∧ q.2.1 = iI a ∧ ∀ j, w' j = if j = 0 then iI a else w j) ∨
  (q.1 = 1 ∧ ∃ a x y : Nat, a ≤ 1 ∧ x ≤ 9 ∧ y ≤ 9 ∧ q.2.1 = iI a ∧ q.2.2.1 = iI x ∧ q.2.2.2.1 = iI y ∧ ∀ j, w' j = if j = 19 + 2 * a then iI x else if j = 20 + 2 * a then iI y else w j) ∨
  (q.1 = 2 ∧ ∃ a c x y : Nat, a ≤ 3 ∧ c ≤ 3 ∧ x ≤ 9 ∧ y ≤ 9 ∧ q.2.1 = iI a ∧ q.2.2.1 = iI c ∧ q.2.2.2.1 = iI x ∧ q.2.2.2.2 = iI y ∧ ∀ j, w' j = if j = 23 + 2 * (4 * a + c) then iI x else if j = 24 + 2 * (4 * a + c) then iI y else w j) ∨
  (∃ i : Nat, i < 3 ∧ q.1 = 3 + (i : Int) ∧ ∀ j, w' j = if j = 6 + i then w (6 + i) ||| q.2.1 else w j) ∨
  (q.1 = 6 ∧ ∃ a : Nat, a ≤ 99 ∧ q.2.1 = iI a ∧ ∀ j, w' j = if j = 1 then iI a else w j) ∨
  (q.1 = 7 ∧ ∃ a : Nat, a ≤ 100 ∧ q.2.1 = iI a ∧ ∀ j, w' j = if j = 2 then iI a else w j) ∨
  (q.1 = 8 ∧ ∃ bc a x y : Nat, bc < 60 ∧ w 5 = iI bc ∧ a ≤ 1 ∧ x ≤ 1 ∧ y ≤ 2 ∧ q.2.1 = iI a ∧ q.2.2.1 = iI x ∧ q.2.2.2.1 = iI y ∧ ∀ j, w' j = if j = 55 + 3 * bc then iI a else if j = 56 + 3 * bc then iI x else if j = 57 + 3 * bc then iI y else if j = 5 then iI (bc + 1 : Nat) else w j)
def APs (ah : Bool) : (Nat → Int32) → List GLn → (Nat → Int32) → Prop
  | w, [], w' => ∀ j, w' j = w j
  | w, q :: r, w' => ∃ w1, AP ah w q w1 ∧ APs ah w1 r w'
theorem AP_to {ah : Bool} {w w' w'' : Nat → Int32} {q : GLn} (h : AP ah w q w') (e : ∀ j, w'' j = w' j) : AP ah w q w'' := by
  have e2 : w'' = w' := funext e
  rw [e2]
  exact h
theorem APs_snoc {ah : Bool} {q : GLn} {w' w'' : Nat → Int32} : ∀ {l : List GLn} {w : Nat → Int32}, APs ah w l w' → AP ah w' q w'' → APs ah w (l ++ [q]) w''
  | [], w, h, hq => by
    have e : w' = w := funext h
    rw [e] at hq
    exact ⟨w'', hq, fun j => rfl⟩
  | x :: r, w, ⟨w1, h1, h2⟩, hq => ⟨w1, h1, APs_snoc h2 hq⟩
/-- the lines as the class keeps them -/
def RowsG (m : Mem) : Nat → List GLn → Prop
  | _, [] => True
  | i, q :: r => gI m 51 (5 * i) = iI q.1 ∧ gI m 51 (5 * i + 1) = q.2.1 ∧ gI m 51 (5 * i + 2) = q.2.2.1 ∧ gI m 51 (5 * i + 3) = q.2.2.2.1 ∧ gI m 51 (5 * i + 4) = q.2.2.2.2 ∧ RowsG m (i + 1) r
theorem RowsG_cg {m m' : Mem} : ∀ {l : List GLn} {i : Nat}, (∀ j, j < 5 * (i + l.length) → gI m' 51 j = gI m 51 j) → RowsG m i l → RowsG m' i l
  | [], _, _, _ => trivial
  | q :: r, i, h, ⟨h1, h2, h3, h4, h5, h6⟩ => by
    simp only [List.length_cons] at h
    exact ⟨(h _ (by omega)).trans h1, (h _ (by omega)).trans h2, (h _ (by omega)).trans h3, (h _ (by omega)).trans h4, (h _ (by omega)).trans h5, RowsG_cg (fun j hj => h j (by omega)) h6⟩
theorem RowsG_snoc {m : Mem} {q : GLn} : ∀ {l : List GLn} {i : Nat}, RowsG m i l → RowsG m (i + l.length) [q] → RowsG m i (l ++ [q])
  | [], i, _, h => h
  | x :: r, i, ⟨h1, h2, h3, h4, h5, h6⟩, h => by
    refine ⟨h1, h2, h3, h4, h5, RowsG_snoc h6 ?_⟩
    simp only [List.length_cons] at h
    rw [show i + 1 + r.length = i + (r.length + 1) by omega]
    exact h
/-- a line is kept, behind n others -/
def KP (n : Nat) (q : GLn) (m m' : Mem) : Prop := gI m' 46 8 = iI (n + 1 : Nat) ∧ RowsG m' n [q] ∧ ∀ j, j < 5 * n → gI m' 51 j = gI m 51 j
theorem KP.base {n : Nat} {q : GLn} {m m0 m' : Mem} (h : KP n q m m') (e : ∀ j, gI m 51 j = gI m0 51 j) : KP n q m0 m' := ⟨h.1, h.2.1, fun j hj => (h.2.2 j hj).trans (e j)⟩
theorem keep_raw {m : Mem} {n : Nat} (h8 : gI m 46 8 = iI n) (hn : n < 14) (x0 x1 x2 x3 x4 : Int32) : F_GT_keep x0 x1 x2 x3 x4 m = some ((), sI (sI (sI (sI (sI (sI m 51 (5 * n) x0) 51 (5 * n + 1) x1) 51 (5 * n + 2) x2) 51 (5 * n + 3) x3) 51 (5 * n + 4) x4) 46 8 (iI (n + 1 : Nat))) := by
  obtain ⟨M5, hM5⟩ : ∃ x, x = sI (sI (sI (sI (sI m 51 (5 * n) x0) 51 (5 * n + 1) x1) 51 (5 * n + 2) x2) 51 (5 * n + 3) x3) 51 (5 * n + 4) x4 := ⟨_, rfl⟩
  have e8 : gI M5 46 8 = iI n := by
    rw [hM5, gI_sI, if_neg (fun q => absurd q.1 (by decide)), gI_sI, if_neg (fun q => absurd q.1 (by decide)), gI_sI, if_neg (fun q => absurd q.1 (by decide)), gI_sI, if_neg (fun q => absurd q.1 (by decide)), gI_sI, if_neg (fun q => absurd q.1 (by decide))]
    exact h8
  unfold F_GT_keep
  rw [h8, lt5, iI_mul, lt_def, if_neg (by rw [lt0, iI_lt (by omega) (by omega) (by omega) (by omega)]; omega), iI_add, if_neg (by rw [lt70, iI_lt (by omega) (by omega) (by omega) (by omega)]; omega), ckB_t (iI_inb (by omega) (by omega) (by omega)), lt_def, iI_idx (by omega) (by omega), show ((n : Int) * 5).toNat = 5 * n by omega]
  rw [lt1, iI_add, ckB_t (iI_inb (by omega) (by omega) (by omega)), lt_def, iI_idx (by omega) (by omega), show ((n : Int) * 5 + 1).toNat = 5 * n + 1 by omega]
  rw [lt2, iI_add, ckB_t (iI_inb (by omega) (by omega) (by omega)), lt_def, iI_idx (by omega) (by omega), show ((n : Int) * 5 + 2).toNat = 5 * n + 2 by omega]
  rw [lt3, iI_add, ckB_t (iI_inb (by omega) (by omega) (by omega)), lt_def, iI_idx (by omega) (by omega), show ((n : Int) * 5 + 3).toNat = 5 * n + 3 by omega]
  rw [lt4, iI_add, ckB_t (iI_inb (by omega) (by omega) (by omega)), lt_def, iI_idx (by omega) (by omega), show ((n : Int) * 5 + 4).toNat = 5 * n + 4 by omega]
  rw [← hM5, lt_def, e8, iI_add]
  rfl
theorem keepC {b : Nat → Int} {T K : Nat} {B E : Nat → Nat} {m : Mem} {k n : Nat} (hC : CTG m b T K B E k) (h8 : gI m 46 8 = iI n) (hn : n < 14) (z : Int) (x1 x2 x3 x4 : Int32) : ∃ m', F_GT_keep (iI z) x1 x2 x3 x4 m = some ((), m') ∧ CTG m' b T K B E k ∧ KP n (z, x1, x2, x3, x4) m m' ∧ gI m' 46 9 = gI m 46 9 := by
  have f := fr_GT_keep _ _ _ _ _ _ _ _ (keep_raw h8 hn (iI z) x1 x2 x3 x4)
  refine ⟨_, keep_raw h8 hn (iI z) x1 x2 x3 x4, hC.cg (fun j a c => f.gI (by simp) (by simp; omega)) (fun o a c j => f.gI (by simp; omega) (by simp; omega)), ⟨?_, ⟨?_, ?_, ?_, ?_, ?_, trivial⟩, fun j hj => ?_⟩, f.gI (by simp) (by simp)⟩
  · rw [gI_sI, if_pos ⟨rfl, rfl⟩]
  · rw [gI_sI, if_neg (fun q => absurd q.1 (by decide)), gI_sI, if_neg (fun q => by have := q.2; omega), gI_sI, if_neg (fun q => by have := q.2; omega), gI_sI, if_neg (fun q => by have := q.2; omega), gI_sI, if_neg (fun q => by have := q.2; omega), gI_sI, if_pos ⟨rfl, rfl⟩]
  · rw [gI_sI, if_neg (fun q => absurd q.1 (by decide)), gI_sI, if_neg (fun q => by have := q.2; omega), gI_sI, if_neg (fun q => by have := q.2; omega), gI_sI, if_neg (fun q => by have := q.2; omega), gI_sI, if_pos ⟨rfl, rfl⟩]
  · rw [gI_sI, if_neg (fun q => absurd q.1 (by decide)), gI_sI, if_neg (fun q => by have := q.2; omega), gI_sI, if_neg (fun q => by have := q.2; omega), gI_sI, if_pos ⟨rfl, rfl⟩]
  · rw [gI_sI, if_neg (fun q => absurd q.1 (by decide)), gI_sI, if_neg (fun q => by have := q.2; omega), gI_sI, if_pos ⟨rfl, rfl⟩]
  · rw [gI_sI, if_neg (fun q => absurd q.1 (by decide)), gI_sI, if_pos ⟨rfl, rfl⟩]
  · rw [gI_sI, if_neg (fun q => absurd q.1 (by decide)), gI_sI, if_neg (fun q => by have := q.2; omega), gI_sI, if_neg (fun q => by have := q.2; omega), gI_sI, if_neg (fun q => by have := q.2; omega), gI_sI, if_neg (fun q => by have := q.2; omega), gI_sI, if_neg (fun q => by have := q.2; omega)]
/-- something is wrong, and the lines kept can be counted -/
def DK (m : Mem) (f n : Nat) : Prop := DDG m f ∧ gI m 46 8 = iI n
theorem keep_d {m : Mem} {f n : Nat} (h : DK m f n) (hn : n < 14) (x0 x1 x2 x3 x4 : Int32) : ∃ m', F_GT_keep x0 x1 x2 x3 x4 m = some ((), m') ∧ DDG m' f := by
  have f1 := fr_GT_keep _ _ _ _ _ _ _ _ (keep_raw h.2 hn x0 x1 x2 x3 x4)
  exact ⟨_, keep_raw h.2 hn x0 x1 x2 x3 x4, (f1.gI (by simp) (by simp)).trans h.1.1, h.1.2⟩
def RP (m : Mem) (b : Nat → Int) (T q : Nat) : Prop := ∃ p, blk b T p = q ∧ RSc m b T p
theorem RP.w {m : Mem} {b : Nat → Int} {T q j : Nat} {v : Int32} (h : RP m b T q) : RP (sI m 79 j v) b T q := by
  obtain ⟨p, h1, h2⟩ := h
  exact ⟨p, h1, h2.cg (fun i => by rw [gI_sI, if_neg (fun q => absurd q.1 (by decide))]) (by rw [gI_sI, if_neg (fun q => absurd q.1 (by decide))]) (by rw [gI_sI, if_neg (fun q => absurd q.1 (by decide))])⟩
abbrev fW (m m' : Mem) : Prop := Fr [] [(78, 9), (78, 11)] m m'
theorem fW.w {m m' : Mem} (f : fW m m') (j : Nat) : gI m' 79 j = gI m 79 j := Fr.gI f (by simp) (by simp)
/-- a number, in class and reference -/
theorem num2 {b : Nat → Int} {T K : Nat} {B E : Nat → Nat} {mC mR : Mem} {k : Nat} (hC : CTG mC b T K B E k) (hR : RP mR b T (B k)) {lo hi : Int} (l0 : 0 ≤ lo) (lh : lo ≤ hi) (h1 : hi ≤ 1000) : ∃ mR', fW mR mR' ∧ ((∃ v : Nat, lo ≤ v ∧ v ≤ hi ∧ k < K ∧ F_Tx_numberG (iI lo) (iI hi) mC = some (iI v, sI mC 46 5 (iI (k + 1 : Nat))) ∧ F_M_number (iI lo) (iI hi) mR = some (iI v, mR') ∧ CTG (sI mC 46 5 (iI (k + 1 : Nat))) b T K B E (k + 1) ∧ RP mR' b T (B (k + 1))) ∨ (F_Tx_numberG (iI lo) (iI hi) mC = some (iI lo, sI mC 46 6 (iI (B k))) ∧ DDG (sI mC 46 6 (iI (B k))) (B k) ∧ F_M_number (iI lo) (iI hi) mR = some (iI (-1), mR') ∧ gI mR' 78 11 = iI (B k))) := by
  obtain ⟨p, hp, hr⟩ := hR
  have tf := hC.tf
  have hn := numberG_eq hC l0 lh h1
  obtain ⟨mR', e, r, g, f⟩ := Mnumber_ok hr l0 h1 lh
  rw [hp] at e r g
  refine ⟨mR', f, ?_⟩
  by_cases hno : nok b T (B k) lo hi = true
  · rw [if_pos hno] at e hn
    obtain ⟨hk, hE⟩ := tf.num hC.kK hno
    obtain ⟨-, -, h3, h4⟩ := nok_e.1 hno
    have hv : ((nvq b T (B k)).toNat : Int) = nvq b T (B k) := Int.toNat_of_nonneg (by omega)
    exact Or.inl ⟨(nvq b T (B k)).toNat, by omega, by omega, hk, by rw [hv]; exact hn, by rw [hv]; exact e, hC.nxt hk, E k, (tf.nx k hk).symm, by rw [hE]; exact r⟩
  · rw [if_neg hno] at e hn
    exact Or.inr ⟨hn, ddG_set hC, e, g⟩
/-- a number behind a word -/
theorem aft2 {b : Nat → Int} {T K : Nat} {B E : Nat → Nat} {mC mR : Mem} {k : Nat} (hC : CTG mC b T K B E k) (hR : RP mR b T (B k)) {tx : String} (hl : tx.length ≤ 20) (hl0 : 0 < tx.length) {lo hi : Int} (l0 : 0 ≤ lo) (lh : lo ≤ hi) (h1 : hi ≤ 1000) : ∃ mR', fW mR mR' ∧ ((∃ (v : Nat) (mC1 mC' : Mem), lo ≤ v ∧ v ≤ hi ∧ F_Tx_mustTakeG tx mC = some ((), mC1) ∧ F_Tx_numberG (iI lo) (iI hi) mC1 = some (iI v, mC') ∧ F_M_after_LjavalangStringIII tx (iI lo) (iI hi) mR = some (iI v, mR') ∧ CTG mC' b T K B E (k + 2) ∧ RP mR' b T (B (k + 2)) ∧ Fr [] [(46, 5)] mC mC') ∨ (∃ (x : Int32) (mC1 mC' : Mem) (f : Nat), F_Tx_mustTakeG tx mC = some ((), mC1) ∧ F_Tx_numberG (iI lo) (iI hi) mC1 = some (x, mC') ∧ F_M_after_LjavalangStringIII tx (iI lo) (iI hi) mR = some (iI (-1), mR') ∧ DDG mC' f ∧ gI mR' 78 11 = iI f ∧ Fr [] [(46, 5), (46, 6)] mC mC')) := by
  obtain ⟨p, hp, hr⟩ := hR
  have tf := hC.tf
  have kK := hC.kK
  obtain ⟨m1, e1, r1, g1, f1⟩ := Mletters_ok hr
  rw [hp] at r1 g1
  have e2 := MisWord_eq r1 g1 (sc_ge _ _ _ _) (fun i a d => wrd_le127 a d) hl
  have hm := mustTakeG_eq hC hl hl0
  by_cases hw : wm b (B k) (wrd b T (B k)) tx = true
  · obtain ⟨hk, hW, hE⟩ := tf.word kK hl0 hw
    rw [if_pos hw] at hm
    rw [hw] at e2
    have hC1 := hC.nxt hk
    have hR1 : RP m1 b T (B (k + 1)) := ⟨E k, (tf.nx k hk).symm, by rw [hE]; exact r1⟩
    obtain ⟨m2, f2, ⟨v, v0, v1, hk1, a1, a2, a3, a4⟩ | ⟨a1, a2, a3, a4⟩⟩ := num2 hC1 hR1 l0 lh h1
    · refine ⟨m2, Fr_tr f1 f2 (by simp) (by simp), Or.inl ⟨v, _, _, v0, v1, hm, a1, ?_, a3, a4, Fr_sI rfl (Fr_sI rfl Fr_rf (by simp)) (by simp)⟩⟩
      unfold F_M_after_LjavalangStringIII
      rw [bnd_some e1, bnd_some e2, if_pos rfl, bnd_some a2]
    · refine ⟨m2, Fr_tr f1 f2 (by simp) (by simp), Or.inr ⟨_, _, _, _, hm, a1, ?_, a2, a4, Fr_sI rfl (Fr_sI rfl Fr_rf (by simp)) (by simp)⟩⟩
      unfold F_M_after_LjavalangStringIII
      rw [bnd_some e1, bnd_some e2, if_pos rfl, bnd_some a3]
  · have hw := wm_b hw
    rw [hw, if_neg (by decide)] at hm
    rw [hw] at e2
    refine ⟨m1, f1, Or.inr ⟨_, _, _, _, hm, numberG_d (ddG_set hC) _ _, ?_, ddG_set hC, g1, Fr_sI rfl Fr_rf (by simp)⟩⟩
    unfold F_M_after_LjavalangStringIII
    rw [bnd_some e1, bnd_some e2, if_neg (by decide)]
    rfl
/-- ahead of a line's own part -/
def HX (b : Nat → Int) (T K : Nat) (B E : Nat → Nat) (n k : Nat) (mC mR : Mem) : Prop := CTG mC b T K B E k ∧ RP mR b T (B k) ∧ gI mC 46 8 = iI n ∧ n < 14 ∧ gI mC 46 9 = gI mR 79 5
/-- behind a line -/
def LR (b : Nat → Int) (T K : Nat) (B E : Nat → Nat) (ah : Bool) (n k : Nat) (mC mR : Mem) (ok : Bool) (mC' mR' : Mem) : Prop := (ok = true ∧ ∃ (k' : Nat) (q : GLn), k ≤ k' ∧ CTG mC' b T K B E k' ∧ RP mR' b T (B k') ∧ KP n q mC mC' ∧ AP ah (gI mR 79) q (gI mR' 79) ∧ gI mC' 46 9 = gI mR' 79 5) ∨ (ok = false ∧ ∃ f, DDG mC' f ∧ gI mR' 78 11 = iI f)
theorem h46 {mC : Mem} {v : Int32} {j : Nat} (hj : j ≠ 5) : gI (sI mC 46 5 v) 46 j = gI mC 46 j := by rw [gI_sI, if_neg (fun q => hj q.2)]
theorem h51 {mC : Mem} {v : Int32} (j : Nat) : gI (sI mC 46 5 v) 51 j = gI mC 51 j := by rw [gI_sI, if_neg (fun q => absurd q.1 (by decide))]
theorem h46_6 {mC : Mem} {v : Int32} {j : Nat} (hj : j ≠ 6) : gI (sI mC 46 6 v) 46 j = gI mC 46 j := by rw [gI_sI, if_neg (fun q => hj q.2)]
theorem g_sessions {b : Nat → Int} {T K : Nat} {B E : Nat → Nat} {n k : Nat} {mC mR : Mem} (h : HX b T K B E n k mC mR) (hfi : gI mR 79 10 < 0) : ∃ ok mC' mR', (bnd (F_Tx_numberG (1 : Int32) (9 : Int32) mC) fun xq1 mq1 => bnd (F_GT_keep (0 : Int32) xq1 (0 : Int32) (0 : Int32) (0 : Int32) mq1) fun _ mq2 => some ((), mq2)) = some ((), mC') ∧ F_M_readSessions mR = some (ok, mR') ∧ LR b T K B E true n k mC mR ok mC' mR' := by
  obtain ⟨hC, hR, h8, hn, hb⟩ := h
  obtain ⟨m2, f2, ⟨v, v0, v1, hk, e1, e2, c1, r1⟩ | ⟨e1, hd, e2, g⟩⟩ := num2 hC hR (lo := 1) (hi := 9) (by omega) (by omega) (by omega)
  · obtain ⟨mC', e3, c3, k3, b3⟩ := keepC c1 (n := n) (by rw [h46 (by decide)]; exact h8) hn 0 (iI v) 0 0 0
    have hnn : ¬ iI (v : Int) < 0 := by rw [lt0, iI_lt (by omega) (by omega) (by omega) (by omega)]; omega
    refine ⟨true, mC', sI m2 79 0 (iI v), ?_, ?_, Or.inl ⟨rfl, k + 1, (0, iI v, 0, 0, 0), by omega, c3, r1.w, k3.base h51, Or.inl ⟨rfl, rfl, v, by omega, by omega, rfl, fun j => ?_⟩, ?_⟩⟩
    · rw [show (1 : Int32) = iI 1 from rfl, show (9 : Int32) = iI 9 from rfl, bnd_some e1]
      exact (bnd_some e3).trans rfl
    · unfold F_M_readSessions
      rw [if_pos hfi, show (1 : Int32) = iI 1 from rfl, show (9 : Int32) = iI 9 from rfl, bnd_some e2, lt_def, if_neg hnn, lt_def]
      dsimp only
      rw [if_neg hnn]
    · rw [gI_sI]
      by_cases hj : j = 0
      · rw [if_pos ⟨rfl, hj⟩, if_pos hj]
      · rw [if_neg (fun q => hj q.2), if_neg hj, f2.w]
    · rw [b3, h46 (by decide), hb, gI_sI, if_neg (fun q => absurd q.2 (by decide)), f2.w]
  · obtain ⟨mC', e3, d3⟩ := keep_d (n := n) ⟨hd, by rw [h46_6 (by decide)]; exact h8⟩ hn (0 : Int32) (iI 1) 0 0 0
    refine ⟨false, mC', m2, ?_, ?_, Or.inr ⟨rfl, _, d3, g⟩⟩
    · rw [show (9 : Int32) = iI 9 from rfl, show (1 : Int32) = iI 1 from rfl, bnd_some e1]
      exact (bnd_some e3).trans rfl
    · unfold F_M_readSessions
      rw [if_pos hfi, show (1 : Int32) = iI 1 from rfl, show (9 : Int32) = iI 9 from rfl, bnd_some e2, lt_def, if_pos (by decide)]
      dsimp only
      rw [if_pos (by decide)]
theorem g_margin {b : Nat → Int} {T K : Nat} {B E : Nat → Nat} {n k : Nat} {mC mR : Mem} {ah : Bool} (h : HX b T K B E n k mC mR) : ∃ ok mC' mR', (bnd (F_Tx_numberG (0 : Int32) (99 : Int32) mC) fun xq1 mq1 => bnd (F_GT_keep (6 : Int32) xq1 (0 : Int32) (0 : Int32) (0 : Int32) mq1) fun _ mq2 => some ((), mq2)) = some ((), mC') ∧ F_M_readNumber (1 : Int32) (99 : Int32) mR = some (ok, mR') ∧ LR b T K B E ah n k mC mR ok mC' mR' := by
  obtain ⟨hC, hR, h8, hn, hb⟩ := h
  obtain ⟨m2, f2, ⟨v, v0, v1, hk, e1, e2, c1, r1⟩ | ⟨e1, hd, e2, g⟩⟩ := num2 hC hR (lo := 0) (hi := 99) (by omega) (by omega) (by omega)
  · obtain ⟨mC', e3, c3, k3, b3⟩ := keepC c1 (n := n) (by rw [h46 (by decide)]; exact h8) hn 6 (iI v) 0 0 0
    have hnn : ¬ iI (v : Int) < 0 := by rw [lt0, iI_lt (by omega) (by omega) (by omega) (by omega)]; omega
    refine ⟨true, mC', sI m2 79 1 (iI v), ?_, ?_, Or.inl ⟨rfl, k + 1, (6, iI v, 0, 0, 0), by omega, c3, r1.w, k3.base h51, Or.inr (Or.inr (Or.inr (Or.inr (Or.inl ⟨rfl, v, by omega, rfl, fun j => ?_⟩)))), ?_⟩⟩
    · refine (bnd_some (show F_Tx_numberG (0 : Int32) (99 : Int32) mC = _ from e1)).trans ?_
      exact (bnd_some e3).trans rfl
    · unfold F_M_readNumber
      refine (bnd_some (show F_M_number (0 : Int32) (99 : Int32) mR = _ from e2)).trans ?_
      rw [show (1 : Int32) = iI 1 from rfl, ckB_t (iI_inb (by omega) (by omega) (by omega)), lt_def, iI_idx (by omega) (by omega), if_neg hnn]
      rfl
    · rw [gI_sI]
      by_cases hj : j = 1
      · rw [if_pos ⟨rfl, hj⟩, if_pos hj]
      · rw [if_neg (fun q => hj q.2), if_neg hj, f2.w]
    · rw [b3, h46 (by decide), hb, gI_sI, if_neg (fun q => absurd q.2 (by decide)), f2.w]
  · obtain ⟨mC', e3, d3⟩ := keep_d (n := n) ⟨hd, by rw [h46_6 (by decide)]; exact h8⟩ hn (6 : Int32) (iI 0) 0 0 0
    refine ⟨false, mC', sI m2 79 1 (iI (-1)), ?_, ?_, Or.inr ⟨rfl, _, d3, ?_⟩⟩
    · refine (bnd_some (show F_Tx_numberG (0 : Int32) (99 : Int32) mC = _ from e1)).trans ?_
      exact (bnd_some e3).trans rfl
    · unfold F_M_readNumber
      refine (bnd_some (show F_M_number (0 : Int32) (99 : Int32) mR = _ from e2)).trans ?_
      rw [show (1 : Int32) = iI 1 from rfl, ckB_t (iI_inb (by omega) (by omega) (by omega)), lt_def, iI_idx (by omega) (by omega), if_pos (by decide)]
      rfl
    · rw [gI_sI, if_neg (fun q => absurd q.1 (by decide))]
      exact g
theorem g_draw {b : Nat → Int} {T K : Nat} {B E : Nat → Nat} {n k : Nat} {mC mR : Mem} {ah : Bool} (h : HX b T K B E n k mC mR) : ∃ ok mC' mR', (bnd (F_Tx_numberG (0 : Int32) (100 : Int32) mC) fun xq1 mq1 => bnd (F_GT_keep (7 : Int32) xq1 (0 : Int32) (0 : Int32) (0 : Int32) mq1) fun _ mq2 => some ((), mq2)) = some ((), mC') ∧ F_M_readNumber (2 : Int32) (100 : Int32) mR = some (ok, mR') ∧ LR b T K B E ah n k mC mR ok mC' mR' := by
  obtain ⟨hC, hR, h8, hn, hb⟩ := h
  obtain ⟨m2, f2, ⟨v, v0, v1, hk, e1, e2, c1, r1⟩ | ⟨e1, hd, e2, g⟩⟩ := num2 hC hR (lo := 0) (hi := 100) (by omega) (by omega) (by omega)
  · obtain ⟨mC', e3, c3, k3, b3⟩ := keepC c1 (n := n) (by rw [h46 (by decide)]; exact h8) hn 7 (iI v) 0 0 0
    have hnn : ¬ iI (v : Int) < 0 := by rw [lt0, iI_lt (by omega) (by omega) (by omega) (by omega)]; omega
    refine ⟨true, mC', sI m2 79 2 (iI v), ?_, ?_, Or.inl ⟨rfl, k + 1, (7, iI v, 0, 0, 0), by omega, c3, r1.w, k3.base h51, Or.inr (Or.inr (Or.inr (Or.inr (Or.inr (Or.inl ⟨rfl, v, by omega, rfl, fun j => ?_⟩))))), ?_⟩⟩
    · refine (bnd_some (show F_Tx_numberG (0 : Int32) (100 : Int32) mC = _ from e1)).trans ?_
      exact (bnd_some e3).trans rfl
    · unfold F_M_readNumber
      refine (bnd_some (show F_M_number (0 : Int32) (100 : Int32) mR = _ from e2)).trans ?_
      rw [show (2 : Int32) = iI 2 from rfl, ckB_t (iI_inb (by omega) (by omega) (by omega)), lt_def, iI_idx (by omega) (by omega), if_neg hnn]
      rfl
    · rw [gI_sI]
      by_cases hj : j = 2
      · rw [if_pos ⟨rfl, hj⟩, if_pos hj]
      · rw [if_neg (fun q => hj q.2), if_neg hj, f2.w]
    · rw [b3, h46 (by decide), hb, gI_sI, if_neg (fun q => absurd q.2 (by decide)), f2.w]
  · obtain ⟨mC', e3, d3⟩ := keep_d (n := n) ⟨hd, by rw [h46_6 (by decide)]; exact h8⟩ hn (7 : Int32) (iI 0) 0 0 0
    refine ⟨false, mC', sI m2 79 2 (iI (-1)), ?_, ?_, Or.inr ⟨rfl, _, d3, ?_⟩⟩
    · refine (bnd_some (show F_Tx_numberG (0 : Int32) (100 : Int32) mC = _ from e1)).trans ?_
      exact (bnd_some e3).trans rfl
    · unfold F_M_readNumber
      refine (bnd_some (show F_M_number (0 : Int32) (100 : Int32) mR = _ from e2)).trans ?_
      rw [show (2 : Int32) = iI 2 from rfl, ckB_t (iI_inb (by omega) (by omega) (by omega)), lt_def, iI_idx (by omega) (by omega), if_pos (by decide)]
      rfl
    · rw [gI_sI, if_neg (fun q => absurd q.1 (by decide))]
      exact g
theorem bits_d {m : Mem} {f : Nat} (hd : DDG m f) (acc : Int32) (i : Int32) (nf : Nat) : F_GT_readBits_L12 (nf + 1) acc i m = some (acc, m) := by
  rw [F_GT_readBits_L12]
  by_cases hx : (400 : Int32) ≤ i
  · rw [if_pos hx]
  · rw [if_neg hx, bnd_some (isAtNG_d hd), if_neg (by decide)]
theorem bits_L {b : Nat → Int} {T K : Nat} {B E : Nat → Nat} {at1 : Nat} (h1 : at1 < 100) {w0 : Nat → Int32} : ∀ (d k i nfC nfR : Nat) (acc : Int32) (mC mR : Mem), K - k ≤ d → d + 1 < nfC → d < nfR → i < k → CTG mC b T K B E k → RP mR b T (B k) → (∀ j, gI mR 79 j = if j = at1 then w0 at1 ||| acc else w0 j) → ∃ ok x mC' mR', F_GT_readBits_L12 nfC acc (iI i) mC = some (x, mC') ∧ (bnd (F_M_isFigure mR) fun zq13 mq11 => if zq13 = true then (F_M_readSet_L0 (iI at1) nfR mq11) else (some (true, mq11))) = some (ok, mR') ∧ Fr [] [(46, 5), (46, 6)] mC mC' ∧ ((ok = true ∧ ∃ k', k ≤ k' ∧ CTG mC' b T K B E k' ∧ RP mR' b T (B k') ∧ ∀ j, gI mR' 79 j = if j = at1 then w0 at1 ||| x else w0 j) ∨ (ok = false ∧ ∃ f, DDG mC' f ∧ gI mR' 78 11 = iI f)) := by
  intro d
  induction d with
  | zero =>
    intro k i nfC nfR acc mC mR hd hC hR hi c r e
    obtain ⟨nfC, rfl⟩ : ∃ x, nfC = x + 1 := ⟨nfC - 1, by omega⟩
    have tf := c.tf
    have kK := c.kK
    obtain ⟨p, hp, hr⟩ := r
    obtain ⟨m1, e1, r1, g1, f1⟩ := MisFig_ok hr
    rw [hp] at e1 r1
    have hnT : ¬ B k < T := by
      rw [show k = K by omega, tf.bK]
      omega
    refine ⟨true, acc, mC, m1, ?_, ?_, Fr_rf, Or.inl ⟨rfl, k, Nat.le_refl _, c, ⟨B k, tf.bl kK, r1⟩, fun j => (fW.w f1 j).trans (e j)⟩⟩
    · rw [F_GT_readBits_L12]
      by_cases hx : (400 : Int32) ≤ iI i
      · rw [if_pos hx]
      · rw [if_neg hx, bnd_some (isAtNG_eq c), decide_eq_false (fun q => by have := q.1; omega), if_neg (by decide)]
    · rw [bnd_some e1, decide_eq_false (fun q => hnT q.1), if_neg (by decide)]
  | succ d ih =>
    intro k i nfC nfR acc mC mR hd hC hR hi c r e
    obtain ⟨nfC, rfl⟩ : ∃ x, nfC = x + 1 := ⟨nfC - 1, by omega⟩
    obtain ⟨nfR, rfl⟩ : ∃ x, nfR = x + 1 := ⟨nfR - 1, by omega⟩
    have tf := c.tf
    have kK := c.kK
    have kT := tf.kT
    have t4 := tf.t4
    obtain ⟨p, hp, hr⟩ := r
    obtain ⟨m1, e1, r1, g1, f1⟩ := MisFig_ok hr
    rw [hp] at e1 r1
    have hR1 : RP m1 b T (B k) := ⟨B k, tf.bl kK, r1⟩
    have e79 : ∀ j, gI m1 79 j = if j = at1 then w0 at1 ||| acc else w0 j := fun j => (fW.w f1 j).trans (e j)
    by_cases hk : k < K ∧ isD (b (B k)) = true
    · have hD := isD_e.1 hk.2
      have hBT := tf.lt k hk.1
      obtain ⟨m2, f2, ⟨v, v0, v1, hk2, a1, a2, a3, a4⟩ | ⟨a1, a2, a3, a4⟩⟩ := num2 c hR1 (lo := 0) (hi := 8) (by omega) (by omega) (by omega)
      · obtain ⟨m3, hm3⟩ : ∃ x, x = sI m2 79 at1 ((w0 at1 ||| acc) ||| ((1 : Int32) <<< (iI v &&& 31))) := ⟨_, rfl⟩
        have e3 : ∀ j, gI m3 79 j = if j = at1 then w0 at1 ||| (acc ||| ((1 : Int32) <<< (iI v &&& 31))) else w0 j := by
          intro j
          rw [hm3, gI_sI]
          by_cases hj : j = at1
          · rw [if_pos ⟨rfl, hj⟩, if_pos hj, Int32.or_assoc]
          · rw [if_neg (fun q => hj q.2), if_neg hj, f2.w, e79, if_neg hj]
        obtain ⟨ok, x, mC', mR', i1, i2, i3, i4⟩ := ih (k + 1) (i + 1) nfC nfR (acc ||| ((1 : Int32) <<< (iI v &&& 31))) _ m3 (by omega) (by omega) (by omega) (by omega) a3 (by rw [hm3]; exact a4.w) e3
        refine ⟨ok, x, mC', mR', ?_, ?_, Fr_tr (Fr_sI rfl Fr_rf (by simp)) i3 (by simp) (by simp), ?_⟩
        · rw [F_GT_readBits_L12, if_neg (by rw [lt400, iI_le (by omega) (by omega) (by omega) (by omega)]; omega), bnd_some (isAtNG_eq c), decide_eq_true hk, if_pos rfl]
          refine (bnd_some (show F_Tx_numberG (0 : Int32) (8 : Int32) mC = _ from a1)).trans ?_
          rw [lt_def, lt_def, show iI (i : Int) + (1 : Int32) = iI (i + 1 : Nat) by rw [lt1, iI_add]; rfl]
          exact i1
        · rw [bnd_some e1, decide_eq_true ⟨hBT, hD.1, hD.2⟩, if_pos rfl, F_M_readSet_L0]
          refine (bnd_some (show F_M_number (0 : Int32) (8 : Int32) m1 = _ from a2)).trans ?_
          rw [if_pos (by rw [lt0, iI_le (by omega) (by omega) (by omega) (by omega)]; omega), ckB_t (iI_inb (by omega) (by omega) (by omega)), lt_def, ckB_t (iI_inb (by omega) (by omega) (by omega)), lt_def, iI_idx (by omega) (by omega), Int.toNat_natCast, f2.w, e79, if_pos rfl, ← hm3]
          exact i2
        · rcases i4 with ⟨h1, k', h2, h3⟩ | h1
          · exact Or.inl ⟨h1, k', by omega, h3⟩
          · exact Or.inr h1
      · obtain ⟨nfC, rfl⟩ : ∃ x, nfC = x + 1 := ⟨nfC - 1, by omega⟩
        refine ⟨false, acc ||| ((1 : Int32) <<< (iI 0 &&& 31)), _, m2, ?_, ?_, Fr_sI rfl Fr_rf (by simp), Or.inr ⟨rfl, _, a2, a4⟩⟩
        · rw [F_GT_readBits_L12, if_neg (by rw [lt400, iI_le (by omega) (by omega) (by omega) (by omega)]; omega), bnd_some (isAtNG_eq c), decide_eq_true hk, if_pos rfl]
          refine (bnd_some (show F_Tx_numberG (0 : Int32) (8 : Int32) mC = _ from a1)).trans ?_
          rw [lt_def, lt_def]
          exact bits_d a2 _ _ _
        · rw [bnd_some e1, decide_eq_true ⟨hBT, hD.1, hD.2⟩, if_pos rfl, F_M_readSet_L0]
          refine (bnd_some (show F_M_number (0 : Int32) (8 : Int32) m1 = _ from a3)).trans ?_
          rw [if_neg (by decide)]
    · refine ⟨true, acc, mC, m1, ?_, ?_, Fr_rf, Or.inl ⟨rfl, k, Nat.le_refl _, c, hR1, e79⟩⟩
      · rw [F_GT_readBits_L12]
        by_cases hx : (400 : Int32) ≤ iI i
        · rw [if_pos hx]
        · rw [if_neg hx, bnd_some (isAtNG_eq c), decide_eq_false hk, if_neg (by decide)]
      · rw [bnd_some e1, decide_eq_false (fun q => hk ⟨?_, isD_e.2 q.2⟩), if_neg (by decide)]
        by_cases w : k < K
        · exact w
        · have q1 := q.1
          rw [show k = K by omega, tf.bK] at q1
          omega
theorem g_set {b : Nat → Int} {T K : Nat} {B E : Nat → Nat} {n k : Nat} {mC mR : Mem} {ah : Bool} (hk0 : 0 < k) (h : HX b T K B E n k mC mR) {i : Nat} (hi : i < 3) {kd : Int32} (hkd : kd = iI (3 + (i : Int))) {ix : Int32} (hix : ix = iI (6 + i : Nat)) : ∃ ok mC' mR', (bnd (F_GT_readBits mC) fun xq1 mq1 => bnd (F_GT_keep kd xq1 (0 : Int32) (0 : Int32) (0 : Int32) mq1) fun _ mq2 => some ((), mq2)) = some ((), mC') ∧ F_M_readSet ix mR = some (ok, mR') ∧ LR b T K B E ah n k mC mR ok mC' mR' := by
  obtain ⟨hC, hR, h8, hn, hb⟩ := h
  obtain ⟨N, hN⟩ : ∃ N : Nat, N = 1000000 := ⟨_, rfl⟩
  have tf := hC.tf
  have kT := tf.kT
  have t4 := tf.t4
  subst hkd
  subst hix
  obtain ⟨N', hN'⟩ : ∃ x, N = x + 1 := ⟨999999, by omega⟩
  obtain ⟨m2, f2, ⟨v, v0, v1, hk, e1, e2, c1, r1⟩ | ⟨e1, hd, e2, g⟩⟩ := num2 hC hR (lo := 0) (hi := 8) (by omega) (by omega) (by omega)
  · obtain ⟨m3, hm3⟩ : ∃ x, x = sI m2 79 (6 + i) (gI mR 79 (6 + i) ||| ((1 : Int32) <<< (iI v &&& 31))) := ⟨_, rfl⟩
    have e3 : ∀ j, gI m3 79 j = if j = 6 + i then gI mR 79 (6 + i) ||| ((1 : Int32) <<< (iI v &&& 31)) else gI mR 79 j := by
      intro j
      rw [hm3, gI_sI]
      by_cases hj : j = 6 + i
      · rw [if_pos ⟨rfl, hj⟩, if_pos hj]
      · rw [if_neg (fun q => hj q.2), if_neg hj, f2.w]
    obtain ⟨ok, x, mC', mR', i1, i2, i3, i4⟩ := bits_L (at1 := 6 + i) (by omega) (w0 := gI mR 79) (K - (k + 1)) (k + 1) 0 N N' ((1 : Int32) <<< (iI v &&& 31)) _ m3 (Nat.le_refl _) (by omega) (by omega) (by omega) c1 (by rw [hm3]; exact r1.w) e3
    have eC : F_GT_readBits mC = some (x, mC') := by
      unfold F_GT_readBits
      rw [← hN]
      refine (bnd_some (show F_Tx_numberG (0 : Int32) (8 : Int32) mC = _ from e1)).trans ?_
      rw [lt_def]
      exact i1
    have eR : F_M_readSet (iI (6 + i : Nat)) mR = some (ok, mR') := by
      unfold F_M_readSet
      rw [← hN, hN', F_M_readSet_L0]
      refine (bnd_some (show F_M_number (0 : Int32) (8 : Int32) mR = _ from e2)).trans ?_
      rw [if_pos (by rw [lt0, iI_le (by omega) (by omega) (by omega) (by omega)]; omega), ckB_t (iI_inb (by omega) (by omega) (by omega)), lt_def, ckB_t (iI_inb (by omega) (by omega) (by omega)), lt_def, iI_idx (by omega) (by omega), Int.toNat_natCast, f2.w, ← hm3]
      exact i2
    have i8 : gI mC' 46 8 = iI n := by rw [i3.gI (by simp) (by simp), h46 (by decide)]; exact h8
    rcases i4 with ⟨rfl, k', j1, j2, j3, j4⟩ | ⟨rfl, f, j1, j2⟩
    · obtain ⟨mC2, e4, c4, k4, b4⟩ := keepC j2 i8 hn (3 + (i : Int)) x 0 0 0
      refine ⟨true, mC2, mR', ?_, eR, Or.inl ⟨rfl, k', (3 + (i : Int), x, 0, 0, 0), by omega, c4, j3, k4.base (fun j => ?_), Or.inr (Or.inr (Or.inr (Or.inl ⟨i, hi, rfl, j4⟩))), ?_⟩⟩
      · rw [bnd_some eC]
        exact (bnd_some e4).trans rfl
      · rw [i3.gI (by simp) (by simp), h51]
      · rw [b4, i3.gI (by simp) (by simp), h46 (by decide), hb, j4, if_neg (by omega)]
    · obtain ⟨mC2, e4, d4⟩ := keep_d (n := n) ⟨j1, i8⟩ hn (iI (3 + (i : Int))) x 0 0 0
      refine ⟨false, mC2, mR', ?_, eR, Or.inr ⟨rfl, f, d4, j2⟩⟩
      rw [bnd_some eC]
      exact (bnd_some e4).trans rfl
  · have eC : F_GT_readBits mC = some ((1 : Int32) <<< (iI 0 &&& 31), sI mC 46 6 (iI (B k))) := by
      unfold F_GT_readBits
      rw [← hN, hN']
      refine (bnd_some (show F_Tx_numberG (0 : Int32) (8 : Int32) mC = _ from e1)).trans ?_
      rw [lt_def]
      exact bits_d hd _ _ _
    obtain ⟨mC2, e4, d4⟩ := keep_d (n := n) ⟨hd, by rw [h46_6 (by decide)]; exact h8⟩ hn (iI (3 + (i : Int))) ((1 : Int32) <<< (iI 0 &&& 31)) 0 0 0
    refine ⟨false, mC2, m2, ?_, ?_, Or.inr ⟨rfl, _, d4, g⟩⟩
    · rw [bnd_some eC]
      exact (bnd_some e4).trans rfl
    · unfold F_M_readSet
      rw [← hN, hN', F_M_readSet_L0]
      refine (bnd_some (show F_M_number (0 : Int32) (8 : Int32) mR = _ from e2)).trans ?_
      rw [if_neg (by decide)]
/-- what the class does with the rest of a line, something being wrong -/
theorem side_d1 {m : Mem} {f n : Nat} (h : DK m f n) (hn : n < 14) (x3 x9 : Int32) : ∃ m', (bnd (F_Tx_mustTakeG ("bowl") m) fun _ mq10 => bnd (F_Tx_numberG (0 : Int32) (9 : Int32) mq10) fun xq15 mq13 => bnd (F_GT_keep (1 : Int32) x3 x9 xq15 (0 : Int32) mq13) fun _ mq16 => some ((), mq16)) = some ((), m') ∧ DDG m' f := by
  obtain ⟨m', e, d⟩ := keep_d h hn 1 x3 x9 0 0
  refine ⟨m', ?_, d⟩
  rw [bnd_some (mustTakeG_d h.1 _), bnd_some (numberG_d h.1 _ _), bnd_some e]
theorem side_d2 {m : Mem} {f n : Nat} (h : DK m f n) (hn : n < 14) (x3 : Int32) : ∃ m', (bnd (F_Tx_mustTakeG ("bat") m) fun _ mq4 => bnd (F_Tx_numberG (0 : Int32) (9 : Int32) mq4) fun xq9 mq7 => bnd (F_Tx_mustTakeG ("bowl") mq7) fun _ mq10 => bnd (F_Tx_numberG (0 : Int32) (9 : Int32) mq10) fun xq15 mq13 => bnd (F_GT_keep (1 : Int32) x3 xq9 xq15 (0 : Int32) mq13) fun _ mq16 => some ((), mq16)) = some ((), m') ∧ DDG m' f := by
  obtain ⟨m', e, d⟩ := side_d1 h hn x3 0
  refine ⟨m', ?_, d⟩
  rw [bnd_some (mustTakeG_d h.1 _), bnd_some (numberG_d h.1 _ _)]
  exact e
theorem g_side {b : Nat → Int} {T K : Nat} {B E : Nat → Nat} {n k : Nat} {mC mR : Mem} {ah : Bool} (h : HX b T K B E n k mC mR) : ∃ ok mC' mR', F_GT_readSide mC = some ((), mC') ∧ F_M_readSide mR = some (ok, mR') ∧ LR b T K B E ah n k mC mR ok mC' mR' := by
  obtain ⟨hC, hR, h8, hn, hb⟩ := h
  unfold F_GT_readSide F_M_readSide
  obtain ⟨m2, f2, ⟨v, v0, v1, hk, e1, e2, c1, r1⟩ | ⟨e1, hd, e2, g⟩⟩ := num2 hC hR (lo := 0) (hi := 1) (by omega) (by omega) (by omega)
  · have e1' : F_Tx_numberG (0 : Int32) (1 : Int32) mC = _ := e1
    have e2' : F_M_number (0 : Int32) (1 : Int32) mR = _ := e2
    have p0 : (0 : Int32) ≤ iI (v : Int) := by rw [lt0, iI_le (by omega) (by omega) (by omega) (by omega)]; omega
    rw [bnd_some e1', bnd_some e2', lt_def, if_pos p0]
    dsimp only
    have g8 : gI (sI mC 46 5 (iI (k + 1 : Nat))) 46 8 = iI n := by rw [h46 (by decide)]; exact h8
    obtain ⟨m3, f3, ⟨x, mC1, mC2, x0, x1, a1, a2, a3, c2, r2, fc2⟩ | ⟨x, mC1, mC2, f, a1, a2, a3, d2, g2, fc2⟩⟩ := aft2 c1 r1 (tx := "bat") (by decide) (by decide) (lo := 0) (hi := 9) (by omega) (by omega) (by omega)
    · have a2' : F_Tx_numberG (0 : Int32) (9 : Int32) mC1 = _ := a2
      have a3' : F_M_after_LjavalangStringIII "bat" (0 : Int32) (9 : Int32) m2 = _ := a3
      have p1 : (0 : Int32) ≤ iI (x : Int) := by rw [lt0, iI_le (by omega) (by omega) (by omega) (by omega)]; omega
      rw [bnd_some a1, bnd_some a2', bnd_some a3', lt_def, if_pos p1]
      dsimp only
      have q8 : gI mC2 46 8 = iI n := by rw [fc2.gI (by simp) (by simp)]; exact g8
      obtain ⟨m4, f4, ⟨y, mC3, mC4, y0, y1, b1, b2, b3, c3, r3, fc3⟩ | ⟨y, mC3, mC4, f, b1, b2, b3, d3, g3, fc3⟩⟩ := aft2 c2 r2 (tx := "bowl") (by decide) (by decide) (lo := 0) (hi := 9) (by omega) (by omega) (by omega)
      · have b2' : F_Tx_numberG (0 : Int32) (9 : Int32) mC3 = _ := b2
        have b3' : F_M_after_LjavalangStringIII "bowl" (0 : Int32) (9 : Int32) m3 = _ := b3
        have p2 : (0 : Int32) ≤ iI (y : Int) := by rw [lt0, iI_le (by omega) (by omega) (by omega) (by omega)]; omega
        rw [bnd_some b1, bnd_some b2', bnd_some b3', if_pos p2]
        have s8 : gI mC4 46 8 = iI n := by rw [fc3.gI (by simp) (by simp)]; exact q8
        obtain ⟨mC5, e4, c4, k4, h4⟩ := keepC c3 s8 hn 1 (iI v) (iI x) (iI y) 0
        have fR : ∀ j, gI m4 79 j = gI mR 79 j := fun j => (fW.w f4 j).trans ((fW.w f3 j).trans (f2.w j))
        refine ⟨true, mC5, sI (sI m4 79 (19 + 2 * v) (iI x)) 79 (20 + 2 * v) (iI y), ?_, ?_, Or.inl ⟨rfl, k + 1 + 2 + 2, (1, iI v, iI x, iI y, 0), by omega, c4, r3.w.w, k4.base (fun j => ?_), Or.inr (Or.inl ⟨rfl, v, x, y, by omega, by omega, by omega, rfl, rfl, rfl, fun j => ?_⟩), ?_⟩⟩
        · exact (bnd_some e4).trans rfl
        · rw [lt19, lt2, iI_mul, iI_add, ckB_t (iI_inb (by omega) (by omega) (by omega)), lt_def, iI_idx (by omega) (by omega), show ((19 : Int) + 2 * (v : Int)).toNat = 19 + 2 * v by omega, lt1, iI_add, lt_def, ckB_t (iI_inb (by omega) (by omega) (by omega)), lt_def, iI_idx (by omega) (by omega), show ((19 : Int) + 2 * (v : Int) + 1).toNat = 20 + 2 * v by omega]
        · rw [fc3.gI (by simp) (by simp), fc2.gI (by simp) (by simp), h51]
        · rw [gI_sI]
          by_cases hj : j = 19 + 2 * v
          · rw [if_neg (fun q => by have := q.2; omega), gI_sI, if_pos ⟨rfl, hj⟩, if_pos hj]
          · rw [if_neg hj]
            by_cases hj2 : j = 20 + 2 * v
            · rw [if_pos ⟨rfl, hj2⟩, if_pos hj2]
            · rw [if_neg (fun q => hj2 q.2), gI_sI, if_neg (fun q => hj q.2), if_neg hj2, fR]
        · rw [h4, fc3.gI (by simp) (by simp), fc2.gI (by simp) (by simp), h46 (by decide), hb, gI_sI, if_neg (fun q => by have := q.2; omega), gI_sI, if_neg (fun q => by have := q.2; omega), fR]
      · have b2' : F_Tx_numberG (0 : Int32) (9 : Int32) mC3 = _ := b2
        have b3' : F_M_after_LjavalangStringIII "bowl" (0 : Int32) (9 : Int32) m3 = _ := b3
        obtain ⟨mC5, e4, d4⟩ := keep_d (n := n) ⟨d3, by rw [fc3.gI (by simp) (by simp)]; exact q8⟩ hn 1 (iI v) (iI x) y 0
        refine ⟨false, mC5, m4, ?_, ?_, Or.inr ⟨rfl, f, d4, g3⟩⟩
        · rw [bnd_some b1, bnd_some b2', bnd_some e4]
        · rw [bnd_some b3', if_neg (by decide)]
    · have a2' : F_Tx_numberG (0 : Int32) (9 : Int32) mC1 = _ := a2
      have a3' : F_M_after_LjavalangStringIII "bat" (0 : Int32) (9 : Int32) m2 = _ := a3
      obtain ⟨mC5, e4, d4⟩ := side_d1 (n := n) ⟨d2, by rw [fc2.gI (by simp) (by simp)]; exact g8⟩ hn (iI v) x
      refine ⟨false, mC5, m3, ?_, ?_, Or.inr ⟨rfl, f, d4, g2⟩⟩
      · rw [bnd_some a1, bnd_some a2']
        exact e4
      · rw [bnd_some a3', lt_def, if_neg (by decide)]
        dsimp only
        rw [if_neg (by decide)]
  · have e1' : F_Tx_numberG (0 : Int32) (1 : Int32) mC = _ := e1
    have e2' : F_M_number (0 : Int32) (1 : Int32) mR = _ := e2
    obtain ⟨mC5, e4, d4⟩ := side_d2 (n := n) ⟨hd, by rw [h46_6 (by decide)]; exact h8⟩ hn (iI 0)
    refine ⟨false, mC5, m2, ?_, ?_, Or.inr ⟨rfl, _, d4, g⟩⟩
    · rw [bnd_some e1']
      exact e4
    · rw [bnd_some e2', lt_def, if_neg (by decide)]
      dsimp only
      rw [lt_def, if_neg (by decide)]
      dsimp only
      rw [if_neg (by decide)]
theorem slot_d1 {m : Mem} {f n : Nat} (h : DK m f n) (hn : n < 14) (x3 x6 x12 : Int32) : ∃ m', (bnd (F_Tx_mustTakeG ("outs") m) fun _ mq13 => bnd (F_Tx_numberG (0 : Int32) (9 : Int32) mq13) fun xq18 mq16 => bnd (F_GT_keep (2 : Int32) x3 x6 x12 xq18 mq16) fun _ mq19 => some ((), mq19)) = some ((), m') ∧ DDG m' f := by
  obtain ⟨m', e, d⟩ := keep_d h hn 2 x3 x6 x12 0
  refine ⟨m', ?_, d⟩
  rw [bnd_some (mustTakeG_d h.1 _), bnd_some (numberG_d h.1 _ _), bnd_some e]
theorem slot_d2 {m : Mem} {f n : Nat} (h : DK m f n) (hn : n < 14) (x3 x6 : Int32) : ∃ m', (bnd (F_Tx_mustTakeG ("runs") m) fun _ mq7 => bnd (F_Tx_numberG (0 : Int32) (9 : Int32) mq7) fun xq12 mq10 => bnd (F_Tx_mustTakeG ("outs") mq10) fun _ mq13 => bnd (F_Tx_numberG (0 : Int32) (9 : Int32) mq13) fun xq18 mq16 => bnd (F_GT_keep (2 : Int32) x3 x6 xq12 xq18 mq16) fun _ mq19 => some ((), mq19)) = some ((), m') ∧ DDG m' f := by
  obtain ⟨m', e, d⟩ := slot_d1 h hn x3 x6 0
  refine ⟨m', ?_, d⟩
  rw [bnd_some (mustTakeG_d h.1 _), bnd_some (numberG_d h.1 _ _)]
  exact e
theorem slot_d3 {m : Mem} {f n : Nat} (h : DK m f n) (hn : n < 14) (x3 : Int32) : ∃ m', (bnd (F_Tx_numberG (0 : Int32) (3 : Int32) m) fun xq6 mq4 => bnd (F_Tx_mustTakeG ("runs") mq4) fun _ mq7 => bnd (F_Tx_numberG (0 : Int32) (9 : Int32) mq7) fun xq12 mq10 => bnd (F_Tx_mustTakeG ("outs") mq10) fun _ mq13 => bnd (F_Tx_numberG (0 : Int32) (9 : Int32) mq13) fun xq18 mq16 => bnd (F_GT_keep (2 : Int32) x3 xq6 xq12 xq18 mq16) fun _ mq19 => some ((), mq19)) = some ((), m') ∧ DDG m' f := by
  obtain ⟨m', e, d⟩ := slot_d2 h hn x3 0
  refine ⟨m', ?_, d⟩
  rw [bnd_some (numberG_d h.1 _ _)]
  exact e
theorem g_slot {b : Nat → Int} {T K : Nat} {B E : Nat → Nat} {n k : Nat} {mC mR : Mem} {ah : Bool} (h : HX b T K B E n k mC mR) : ∃ ok mC' mR', F_GT_readSlot mC = some ((), mC') ∧ F_M_readSlot mR = some (ok, mR') ∧ LR b T K B E ah n k mC mR ok mC' mR' := by
  obtain ⟨hC, hR, h8, hn, hb⟩ := h
  unfold F_GT_readSlot F_M_readSlot
  obtain ⟨m2, f2, ⟨v, v0, v1, hk, e1, e2, c1, r1⟩ | ⟨e1, hd, e2, g⟩⟩ := num2 hC hR (lo := 0) (hi := 3) (by omega) (by omega) (by omega)
  · have e1' : F_Tx_numberG (0 : Int32) (3 : Int32) mC = _ := e1
    have e2' : F_M_number (0 : Int32) (3 : Int32) mR = _ := e2
    have p0 : (0 : Int32) ≤ iI (v : Int) := by rw [lt0, iI_le (by omega) (by omega) (by omega) (by omega)]; omega
    rw [bnd_some e1', bnd_some e2', lt_def, if_pos p0]
    dsimp only
    have g8 : gI (sI mC 46 5 (iI (k + 1 : Nat))) 46 8 = iI n := by rw [h46 (by decide)]; exact h8
    obtain ⟨m3, f3, ⟨u, u0, u1, hk2, a1, a2, c2, r2⟩ | ⟨a1, d2, a2, g2⟩⟩ := num2 c1 r1 (lo := 0) (hi := 3) (by omega) (by omega) (by omega)
    · have a1' : F_Tx_numberG (0 : Int32) (3 : Int32) (sI mC 46 5 (iI (k + 1 : Nat))) = _ := a1
      have a2' : F_M_number (0 : Int32) (3 : Int32) m2 = _ := a2
      have p1 : (0 : Int32) ≤ iI (u : Int) := by rw [lt0, iI_le (by omega) (by omega) (by omega) (by omega)]; omega
      rw [bnd_some a1', bnd_some a2', lt_def, if_pos p1]
      dsimp only
      have q8 : gI (sI (sI mC 46 5 (iI (k + 1 : Nat))) 46 5 (iI (k + 1 + 1 : Nat))) 46 8 = iI n := by rw [h46 (by decide)]; exact g8
      obtain ⟨m4, f4, ⟨x, mC1, mC2, x0, x1, b1, b2, b3, c3, r3, fc3⟩ | ⟨x, mC1, mC2, f, b1, b2, b3, d3, g3, fc3⟩⟩ := aft2 c2 r2 (tx := "runs") (by decide) (by decide) (lo := 0) (hi := 9) (by omega) (by omega) (by omega)
      · have b2' : F_Tx_numberG (0 : Int32) (9 : Int32) mC1 = _ := b2
        have b3' : F_M_after_LjavalangStringIII "runs" (0 : Int32) (9 : Int32) m3 = _ := b3
        have p2 : (0 : Int32) ≤ iI (x : Int) := by rw [lt0, iI_le (by omega) (by omega) (by omega) (by omega)]; omega
        rw [bnd_some b1, bnd_some b2', bnd_some b3', lt_def, if_pos p2]
        dsimp only
        have s8 : gI mC2 46 8 = iI n := by rw [fc3.gI (by simp) (by simp)]; exact q8
        obtain ⟨m5, f5, ⟨y, mC3, mC4, y0, y1, t1, t2, t3, c4, r4, fc4⟩ | ⟨y, mC3, mC4, f, t1, t2, t3, d4, g4, fc4⟩⟩ := aft2 c3 r3 (tx := "outs") (by decide) (by decide) (lo := 0) (hi := 9) (by omega) (by omega) (by omega)
        · have t2' : F_Tx_numberG (0 : Int32) (9 : Int32) mC3 = _ := t2
          have t3' : F_M_after_LjavalangStringIII "outs" (0 : Int32) (9 : Int32) m4 = _ := t3
          have p3 : (0 : Int32) ≤ iI (y : Int) := by rw [lt0, iI_le (by omega) (by omega) (by omega) (by omega)]; omega
          rw [bnd_some t1, bnd_some t2', bnd_some t3', if_pos p3]
          have w8 : gI mC4 46 8 = iI n := by rw [fc4.gI (by simp) (by simp)]; exact s8
          obtain ⟨mC5, e5, c5, k5, h5⟩ := keepC c4 w8 hn 2 (iI v) (iI u) (iI x) (iI y)
          have fR : ∀ j, gI m5 79 j = gI mR 79 j := fun j => (fW.w f5 j).trans ((fW.w f4 j).trans ((fW.w f3 j).trans (f2.w j)))
          refine ⟨true, mC5, sI (sI m5 79 (23 + 2 * (4 * v + u)) (iI x)) 79 (24 + 2 * (4 * v + u)) (iI y), ?_, ?_, Or.inl ⟨rfl, k + 1 + 1 + 2 + 2, (2, iI v, iI u, iI x, iI y), by omega, c5, r4.w.w, k5.base (fun j => ?_), Or.inr (Or.inr (Or.inl ⟨rfl, v, u, x, y, by omega, by omega, by omega, by omega, rfl, rfl, rfl, rfl, fun j => ?_⟩)), ?_⟩⟩
          · exact (bnd_some e5).trans rfl
          · rw [lt23, lt2, lt4, iI_mul, iI_add, iI_mul, iI_add, lt_def, ckB_t (iI_inb (by omega) (by omega) (by omega)), lt_def, iI_idx (by omega) (by omega), show ((23 : Int) + 2 * (4 * (v : Int) + (u : Int))).toNat = 23 + 2 * (4 * v + u) by omega, lt_def, lt1, iI_add, ckB_t (iI_inb (by omega) (by omega) (by omega)), lt_def, iI_idx (by omega) (by omega), show ((23 : Int) + 2 * (4 * (v : Int) + (u : Int)) + 1).toNat = 24 + 2 * (4 * v + u) by omega]
          · rw [fc4.gI (by simp) (by simp), fc3.gI (by simp) (by simp), h51, h51]
          · rw [gI_sI]
            by_cases hj : j = 23 + 2 * (4 * v + u)
            · rw [if_neg (fun q => by have := q.2; omega), gI_sI, if_pos ⟨rfl, hj⟩, if_pos hj]
            · rw [if_neg hj]
              by_cases hj2 : j = 24 + 2 * (4 * v + u)
              · rw [if_pos ⟨rfl, hj2⟩, if_pos hj2]
              · rw [if_neg (fun q => hj2 q.2), gI_sI, if_neg (fun q => hj q.2), if_neg hj2, fR]
          · rw [h5, fc4.gI (by simp) (by simp), fc3.gI (by simp) (by simp), h46 (by decide), h46 (by decide), hb, gI_sI, if_neg (fun q => by have := q.2; omega), gI_sI, if_neg (fun q => by have := q.2; omega), fR]
        · have t2' : F_Tx_numberG (0 : Int32) (9 : Int32) mC3 = _ := t2
          have t3' : F_M_after_LjavalangStringIII "outs" (0 : Int32) (9 : Int32) m4 = _ := t3
          obtain ⟨mC5, e5, d5⟩ := keep_d (n := n) ⟨d4, by rw [fc4.gI (by simp) (by simp)]; exact s8⟩ hn 2 (iI v) (iI u) (iI x) y
          refine ⟨false, mC5, m5, ?_, ?_, Or.inr ⟨rfl, f, d5, g4⟩⟩
          · rw [bnd_some t1, bnd_some t2', bnd_some e5]
          · rw [bnd_some t3', if_neg (by decide)]
      · have b2' : F_Tx_numberG (0 : Int32) (9 : Int32) mC1 = _ := b2
        have b3' : F_M_after_LjavalangStringIII "runs" (0 : Int32) (9 : Int32) m3 = _ := b3
        obtain ⟨mC5, e5, d5⟩ := slot_d1 (n := n) ⟨d3, by rw [fc3.gI (by simp) (by simp)]; exact q8⟩ hn (iI v) (iI u) x
        refine ⟨false, mC5, m4, ?_, ?_, Or.inr ⟨rfl, f, d5, g3⟩⟩
        · rw [bnd_some b1, bnd_some b2']
          exact e5
        · rw [bnd_some b3', lt_def, if_neg (by decide)]
          dsimp only
          rw [if_neg (by decide)]
    · have a1' : F_Tx_numberG (0 : Int32) (3 : Int32) (sI mC 46 5 (iI (k + 1 : Nat))) = _ := a1
      have a2' : F_M_number (0 : Int32) (3 : Int32) m2 = _ := a2
      obtain ⟨mC5, e5, d5⟩ := slot_d2 (n := n) ⟨d2, by rw [h46_6 (by decide)]; exact g8⟩ hn (iI v) (iI 0)
      refine ⟨false, mC5, m3, ?_, ?_, Or.inr ⟨rfl, _, d5, g2⟩⟩
      · rw [bnd_some a1']
        exact e5
      · rw [bnd_some a2', lt_def, if_neg (by decide)]
        dsimp only
        rw [lt_def, if_neg (by decide)]
        dsimp only
        rw [if_neg (by decide)]
  · have e1' : F_Tx_numberG (0 : Int32) (3 : Int32) mC = _ := e1
    have e2' : F_M_number (0 : Int32) (3 : Int32) mR = _ := e2
    obtain ⟨mC5, e5, d5⟩ := slot_d3 (n := n) ⟨hd, by rw [h46_6 (by decide)]; exact h8⟩ hn (iI 0)
    refine ⟨false, mC5, m2, ?_, ?_, Or.inr ⟨rfl, _, d5, g⟩⟩
    · rw [bnd_some e1']
      exact e5
    · rw [bnd_some e2', lt_def, if_neg (by decide)]
      dsimp only
      rw [lt_def, if_neg (by decide)]
      dsimp only
      rw [lt_def, if_neg (by decide)]
      dsimp only
      rw [if_neg (by decide)]
theorem book_d {m : Mem} {f n : Nat} (h : DK m f n) (hn : n < 14) (x3 x6 x9 : Int32) : ∃ m', (lt (sI m 46 9 ((gI m 46 9) + (1 : Int32))) fun mq10 => bnd (F_GT_keep (8 : Int32) x3 x6 x9 (0 : Int32) mq10) fun _ mq11 => some ((), mq11)) = some ((), m') ∧ DDG m' f := by
  obtain ⟨m1, hm1⟩ : ∃ x, x = sI m 46 9 ((gI m 46 9) + (1 : Int32)) := ⟨_, rfl⟩
  have h1 : DK m1 f n := ⟨⟨by rw [hm1, gI_sI, if_neg (fun q => absurd q.2 (by decide))]; exact h.1.1, h.1.2⟩, by rw [hm1, gI_sI, if_neg (fun q => absurd q.2 (by decide))]; exact h.2⟩
  obtain ⟨m', e, d⟩ := keep_d h1 hn 8 x3 x6 x9 0
  refine ⟨m', ?_, d⟩
  rw [lt_def, ← hm1, bnd_some e]
theorem g_book {b : Nat → Int} {T K : Nat} {B E : Nat → Nat} {n k : Nat} {mC mR : Mem} {ah : Bool} (h : HX b T K B E n k mC mR) {bc : Nat} (hbc : bc < 60) (hw5 : gI mR 79 5 = iI bc) : ∃ ok mC' mR', F_GT_readBook mC = some ((), mC') ∧ F_M_readBook mR = some (ok, mR') ∧ LR b T K B E ah n k mC mR ok mC' mR' := by
  obtain ⟨hC, hR, h8, hn, hb⟩ := h
  unfold F_GT_readBook F_M_readBook
  rw [hw5, lt_def, if_neg (by rw [lt60, iI_eq (by omega) (by omega) (by omega) (by omega)]; omega)]
  obtain ⟨m2, f2, ⟨v, v0, v1, hk, e1, e2, c1, r1⟩ | ⟨e1, hd, e2, g⟩⟩ := num2 hC hR (lo := 0) (hi := 1) (by omega) (by omega) (by omega)
  · have e1' : F_Tx_numberG (0 : Int32) (1 : Int32) mC = _ := e1
    have e2' : F_M_number (0 : Int32) (1 : Int32) mR = _ := e2
    have p0 : (0 : Int32) ≤ iI (v : Int) := by rw [lt0, iI_le (by omega) (by omega) (by omega) (by omega)]; omega
    rw [bnd_some e1', bnd_some e2', lt_def, if_pos p0]
    dsimp only
    have g8 : gI (sI mC 46 5 (iI (k + 1 : Nat))) 46 8 = iI n := by rw [h46 (by decide)]; exact h8
    obtain ⟨m3, f3, ⟨x, x0, x1, hk2, a1, a2, c2, r2⟩ | ⟨a1, d2, a2, g2⟩⟩ := num2 c1 r1 (lo := 0) (hi := 1) (by omega) (by omega) (by omega)
    · have a1' : F_Tx_numberG (0 : Int32) (1 : Int32) (sI mC 46 5 (iI (k + 1 : Nat))) = _ := a1
      have a2' : F_M_number (0 : Int32) (1 : Int32) m2 = _ := a2
      have p1 : (0 : Int32) ≤ iI (x : Int) := by rw [lt0, iI_le (by omega) (by omega) (by omega) (by omega)]; omega
      rw [bnd_some a1', bnd_some a2', lt_def, if_pos p1]
      dsimp only
      have q8 : gI (sI (sI mC 46 5 (iI (k + 1 : Nat))) 46 5 (iI (k + 1 + 1 : Nat))) 46 8 = iI n := by rw [h46 (by decide)]; exact g8
      obtain ⟨m4, f4, ⟨y, y0, y1, hk3, b1, b2, c3, r3⟩ | ⟨b1, d3, b2, g3⟩⟩ := num2 c2 r2 (lo := 0) (hi := 2) (by omega) (by omega) (by omega)
      · have b1' : F_Tx_numberG (0 : Int32) (2 : Int32) (sI (sI mC 46 5 (iI (k + 1 : Nat))) 46 5 (iI (k + 1 + 1 : Nat))) = _ := b1
        have b2' : F_M_number (0 : Int32) (2 : Int32) m3 = _ := b2
        have p2 : (0 : Int32) ≤ iI (y : Int) := by rw [lt0, iI_le (by omega) (by omega) (by omega) (by omega)]; omega
        rw [bnd_some b1', bnd_some b2', if_pos p2]
        obtain ⟨mC3, hC3⟩ : ∃ z, z = sI (sI (sI mC 46 5 (iI (k + 1 : Nat))) 46 5 (iI (k + 1 + 1 : Nat))) 46 5 (iI (k + 1 + 1 + 1 : Nat)) := ⟨_, rfl⟩
        rw [← hC3] at c3 ⊢
        obtain ⟨mC4, hC4⟩ : ∃ z, z = sI mC3 46 9 (gI mC3 46 9 + (1 : Int32)) := ⟨_, rfl⟩
        have c4 : CTG mC4 b T K B E (k + 1 + 1 + 1) := c3.cg (fun j a c => by rw [hC4, gI_sI, if_neg (fun q => by have := q.2; omega)]) (fun o a c j => by rw [hC4, gI_sI, if_neg (fun q => by have := q.1; omega)])
        have w8 : gI mC4 46 8 = iI n := by rw [hC4, gI_sI, if_neg (fun q => absurd q.2 (by decide)), hC3, h46 (by decide)]; exact q8
        obtain ⟨mC5, e5, c5, k5, h5⟩ := keepC c4 w8 hn 8 (iI v) (iI x) (iI y) 0
        have fR : ∀ j, gI m4 79 j = gI mR 79 j := fun j => (fW.w f4 j).trans ((fW.w f3 j).trans (f2.w j))
        obtain ⟨mR3, hR3⟩ : ∃ z, z = sI (sI (sI m4 79 (55 + 3 * bc) (iI v)) 79 (56 + 3 * bc) (iI x)) 79 (57 + 3 * bc) (iI y) := ⟨_, rfl⟩
        have w5 : gI mR3 79 5 = iI bc := by rw [hR3, gI_sI, if_neg (fun q => by have := q.2; omega), gI_sI, if_neg (fun q => by have := q.2; omega), gI_sI, if_neg (fun q => by have := q.2; omega), fR]; exact hw5
        refine ⟨true, mC5, sI mR3 79 5 (iI (bc + 1 : Nat)), ?_, ?_, Or.inl ⟨rfl, k + 1 + 1 + 1, (8, iI v, iI x, iI y, 0), by omega, c5, ?_, k5.base (fun j => ?_), Or.inr (Or.inr (Or.inr (Or.inr (Or.inr (Or.inr ⟨rfl, bc, v, x, y, hbc, hw5, by omega, by omega, by omega, rfl, rfl, rfl, fun j => ?_⟩))))), ?_⟩⟩
        · rw [lt_def, ← hC4]
          exact (bnd_some e5).trans rfl
        · rw [lt55, lt3, iI_mul, iI_add, ckB_t (iI_inb (by omega) (by omega) (by omega)), lt_def, iI_idx (by omega) (by omega), show ((55 : Int) + 3 * (bc : Int)).toNat = 55 + 3 * bc by omega, lt1, iI_add, ckB_t (iI_inb (by omega) (by omega) (by omega)), lt_def, iI_idx (by omega) (by omega), show ((55 : Int) + 3 * (bc : Int) + 1).toNat = 56 + 3 * bc by omega, lt2, iI_add, ckB_t (iI_inb (by omega) (by omega) (by omega)), lt_def, iI_idx (by omega) (by omega), show ((55 : Int) + 3 * (bc : Int) + 2).toNat = 57 + 3 * bc by omega, ← hR3, lt_def, w5, iI_add]
          rfl
        · rw [hR3]
          exact r3.w.w.w.w
        · rw [hC4, gI_sI, if_neg (fun q => absurd q.1 (by decide)), hC3, h51, h51, h51]
        · rw [gI_sI]
          by_cases hj5 : j = 5
          · rw [if_pos ⟨rfl, hj5⟩, if_neg (by omega), if_neg (by omega), if_neg (by omega), if_pos hj5]
          · rw [if_neg (fun q => hj5 q.2), hR3, gI_sI]
            by_cases hj1 : j = 55 + 3 * bc
            · rw [if_neg (fun q => by have := q.2; omega), gI_sI, if_neg (fun q => by have := q.2; omega), gI_sI, if_pos ⟨rfl, hj1⟩, if_pos hj1]
            · rw [if_neg hj1]
              by_cases hj2 : j = 56 + 3 * bc
              · rw [if_neg (fun q => by have := q.2; omega), gI_sI, if_pos ⟨rfl, hj2⟩, if_pos hj2]
              · rw [if_neg hj2]
                by_cases hj3 : j = 57 + 3 * bc
                · rw [if_pos ⟨rfl, hj3⟩, if_pos hj3]
                · rw [if_neg (fun q => hj3 q.2), gI_sI, if_neg (fun q => hj2 q.2), gI_sI, if_neg (fun q => hj1 q.2), if_neg hj3, if_neg hj5, fR]
        · rw [h5, hC4, gI_sI, if_pos ⟨rfl, rfl⟩, hC3, h46 (by decide), h46 (by decide), h46 (by decide), hb, hw5, gI_sI, if_pos ⟨rfl, rfl⟩, lt1, iI_add]
          rfl
      · have b1' : F_Tx_numberG (0 : Int32) (2 : Int32) (sI (sI mC 46 5 (iI (k + 1 : Nat))) 46 5 (iI (k + 1 + 1 : Nat))) = _ := b1
        have b2' : F_M_number (0 : Int32) (2 : Int32) m3 = _ := b2
        obtain ⟨mC5, e5, d5⟩ := book_d (n := n) ⟨d3, by rw [h46_6 (by decide)]; exact q8⟩ hn (iI v) (iI x) (iI 0)
        refine ⟨false, mC5, m4, ?_, ?_, Or.inr ⟨rfl, _, d5, g3⟩⟩
        · rw [bnd_some b1']
          exact e5
        · rw [bnd_some b2', if_neg (by decide)]
    · have a1' : F_Tx_numberG (0 : Int32) (1 : Int32) (sI mC 46 5 (iI (k + 1 : Nat))) = _ := a1
      have a2' : F_M_number (0 : Int32) (1 : Int32) m2 = _ := a2
      obtain ⟨mC5, e5, d5⟩ := book_d (n := n) ⟨d2, by rw [h46_6 (by decide)]; exact g8⟩ hn (iI v) (iI 0) 0
      refine ⟨false, mC5, m3, ?_, ?_, Or.inr ⟨rfl, _, d5, g2⟩⟩
      · rw [bnd_some a1', bnd_some (numberG_d d2 _ _)]
        exact e5
      · rw [bnd_some a2', lt_def, if_neg (by decide)]
        dsimp only
        rw [if_neg (by decide)]
  · have e1' : F_Tx_numberG (0 : Int32) (1 : Int32) mC = _ := e1
    have e2' : F_M_number (0 : Int32) (1 : Int32) mR = _ := e2
    obtain ⟨mC5, e5, d5⟩ := book_d (n := n) ⟨hd, by rw [h46_6 (by decide)]; exact h8⟩ hn (iI 0) 0 0
    refine ⟨false, mC5, m2, ?_, ?_, Or.inr ⟨rfl, _, d5, g⟩⟩
    · rw [bnd_some e1', bnd_some (numberG_d hd _ _), bnd_some (numberG_d hd _ _)]
      exact e5
    · rw [bnd_some e2', lt_def, if_neg (by decide)]
      dsimp only
      rw [lt_def, if_neg (by decide)]
      dsimp only
      rw [if_neg (by decide)]
def GC (m : Mem) : Option (Unit × Mem) := bnd (F_Tx_takesWordG ("side") m) fun zc0 mc0 => if zc0 = true then (bnd (F_GT_readSide mc0) fun _ mz0 => some ((), mz0)) else (bnd (F_Tx_takesWordG ("slot") mc0) fun zc1 mc1 => if zc1 = true then (bnd (F_GT_readSlot mc1) fun _ mz1 => some ((), mz1)) else (bnd (F_Tx_takesWordG ("cloud") mc1) fun zc2 mc2 => if zc2 = true then (bnd (F_GT_readBits mc2) fun xz0 my0 => bnd (F_GT_keep (3 : Int32) xz0 (0 : Int32) (0 : Int32) (0 : Int32) my0) fun _ mz0 => some ((), mz0)) else (bnd (F_Tx_takesWordG ("tide") mc2) fun zc3 mc3 => if zc3 = true then (bnd (F_GT_readBits mc3) fun xz1 my1 => bnd (F_GT_keep (4 : Int32) xz1 (0 : Int32) (0 : Int32) (0 : Int32) my1) fun _ mz1 => some ((), mz1)) else (bnd (F_Tx_takesWordG ("rain") mc3) fun zc4 mc4 => if zc4 = true then (bnd (F_GT_readBits mc4) fun xz2 my2 => bnd (F_GT_keep (5 : Int32) xz2 (0 : Int32) (0 : Int32) (0 : Int32) my2) fun _ mz2 => some ((), mz2)) else (bnd (F_Tx_takesWordG ("margin") mc4) fun zc5 mc5 => if zc5 = true then (bnd (F_Tx_numberG (0 : Int32) (99 : Int32) mc5) fun xw0 mw0 => bnd (F_GT_keep (6 : Int32) xw0 (0 : Int32) (0 : Int32) (0 : Int32) mw0) fun _ mv0 => some ((), mv0)) else (bnd (F_Tx_takesWordG ("drawworth") mc5) fun zc6 mc6 => if zc6 = true then (bnd (F_Tx_numberG (0 : Int32) (100 : Int32) mc6) fun xw1 mw1 => bnd (F_GT_keep (7 : Int32) xw1 (0 : Int32) (0 : Int32) (0 : Int32) mw1) fun _ mv1 => some ((), mv1)) else (lt (fun (mq23 : Mem) => ((bnd (F_Tx_setWrongG mq23) fun _ mq24 => some ((), mq24)) : Option (Unit × Mem))) fun k219_23 => if (60 : Int32) ≤ (gI mc6 46 9) then (k219_23 mc6) else (bnd (F_Tx_takesWordG ("book") mc6) fun zq29 mq27 => if zq29 = true then (bnd (F_GT_readBook mq27) fun _ mq30 => some ((), mq30)) else (k219_23 mq27)))))))))
theorem tG_t {b : Nat → Int} {T K : Nat} {B E : Nat → Nat} {m : Mem} {k : Nat} (h : CTG m b T K B E k) {tx : String} (hl : tx.length ≤ 20) (hl0 : 0 < tx.length) (hw : wm b (B k) (wrd b T (B k)) tx = true) : F_Tx_takesWordG tx m = some (true, sI m 46 5 (iI (k + 1 : Nat))) := by
  rw [takesWordG_eq h hl hl0, hw, if_pos rfl]
theorem tG_f {b : Nat → Int} {T K : Nat} {B E : Nat → Nat} {m : Mem} {k : Nat} (h : CTG m b T K B E k) {tx : String} (hl : tx.length ≤ 20) (hl0 : 0 < tx.length) (hw : wm b (B k) (wrd b T (B k)) tx = false) : F_Tx_takesWordG tx m = some (false, m) := by
  rw [takesWordG_eq h hl hl0, hw, if_neg (by decide)]
theorem GC_bad {b : Nat → Int} {T K : Nat} {B E : Nat → Nat} {k : Nat} {m : Mem} (h : CTG m b T K B E k) (w1 : wm b (B k) (wrd b T (B k)) "side" = false) (w2 : wm b (B k) (wrd b T (B k)) "slot" = false) (w3 : wm b (B k) (wrd b T (B k)) "cloud" = false) (w4 : wm b (B k) (wrd b T (B k)) "tide" = false) (w5 : wm b (B k) (wrd b T (B k)) "rain" = false) (w6 : wm b (B k) (wrd b T (B k)) "margin" = false) (w7 : wm b (B k) (wrd b T (B k)) "drawworth" = false) (w8 : wm b (B k) (wrd b T (B k)) "book" = false) : GC m = some ((), sI m 46 6 (iI (B k))) := by
  unfold GC
  rw [bnd_some (tG_f h (by decide) (by decide) w1), if_neg (by decide), bnd_some (tG_f h (by decide) (by decide) w2), if_neg (by decide), bnd_some (tG_f h (by decide) (by decide) w3), if_neg (by decide), bnd_some (tG_f h (by decide) (by decide) w4), if_neg (by decide), bnd_some (tG_f h (by decide) (by decide) w5), if_neg (by decide), bnd_some (tG_f h (by decide) (by decide) w6), if_neg (by decide), bnd_some (tG_f h (by decide) (by decide) w7), if_neg (by decide), lt_def]
  by_cases h60 : (60 : Int32) ≤ gI m 46 9
  · rw [if_pos h60]
    dsimp only
    rw [bnd_some (setWrongG_eq h)]
  · rw [if_neg h60, bnd_some (tG_f h (by decide) (by decide) w8), if_neg (by decide)]
    dsimp only
    rw [bnd_some (setWrongG_eq h)]
theorem GC_full {b : Nat → Int} {T K : Nat} {B E : Nat → Nat} {k : Nat} {m : Mem} (h : CTG m b T K B E k) (h60 : (60 : Int32) ≤ gI m 46 9) (w1 : wm b (B k) (wrd b T (B k)) "side" = false) (w2 : wm b (B k) (wrd b T (B k)) "slot" = false) (w3 : wm b (B k) (wrd b T (B k)) "cloud" = false) (w4 : wm b (B k) (wrd b T (B k)) "tide" = false) (w5 : wm b (B k) (wrd b T (B k)) "rain" = false) (w6 : wm b (B k) (wrd b T (B k)) "margin" = false) (w7 : wm b (B k) (wrd b T (B k)) "drawworth" = false) : GC m = some ((), sI m 46 6 (iI (B k))) := by
  unfold GC
  rw [bnd_some (tG_f h (by decide) (by decide) w1), if_neg (by decide), bnd_some (tG_f h (by decide) (by decide) w2), if_neg (by decide), bnd_some (tG_f h (by decide) (by decide) w3), if_neg (by decide), bnd_some (tG_f h (by decide) (by decide) w4), if_neg (by decide), bnd_some (tG_f h (by decide) (by decide) w5), if_neg (by decide), bnd_some (tG_f h (by decide) (by decide) w6), if_neg (by decide), bnd_some (tG_f h (by decide) (by decide) w7), if_neg (by decide), lt_def, if_pos h60]
  dsimp only
  rw [bnd_some (setWrongG_eq h)]
/-- the first line, and whether it may be told -/
theorem GL_no {b : Nat → Int} {T K : Nat} {B E : Nat → Nat} {k : Nat} {m : Mem} (h : CTG m b T K B E k) (w0 : wm b (B k) (wrd b T (B k)) "sessions" = false) : F_GT_readLine m = GC m := by
  unfold F_GT_readLine
  rw [lt_def]
  by_cases ha : gZ m 46 10 = true
  · rw [if_pos ha, bnd_some (tG_f h (by decide) (by decide) w0), if_neg (by decide)]
    rfl
  · rw [if_neg ha]
    rfl
theorem sess_ne {b : Nat → Int} {T : Nat} {B : Nat → Nat} {k : Nat} (h : wm b (B k) (wrd b T (B k)) "sessions" = true) : wm b (B k) (wrd b T (B k)) "side" = false ∧ wm b (B k) (wrd b T (B k)) "slot" = false ∧ wm b (B k) (wrd b T (B k)) "cloud" = false ∧ wm b (B k) (wrd b T (B k)) "tide" = false ∧ wm b (B k) (wrd b T (B k)) "rain" = false ∧ wm b (B k) (wrd b T (B k)) "margin" = false ∧ wm b (B k) (wrd b T (B k)) "drawworth" = false ∧ wm b (B k) (wrd b T (B k)) "book" = false := ⟨(wm_ne h (Or.inl (by decide))), (wm_ne h (Or.inl (by decide))), (wm_ne h (Or.inl (by decide))), (wm_ne h (Or.inl (by decide))), (wm_ne h (Or.inl (by decide))), (wm_ne h (Or.inl (by decide))), (wm_ne h (Or.inl (by decide))), (wm_ne h (Or.inl (by decide)))⟩
theorem LR.from {b : Nat → Int} {T K : Nat} {B E : Nat → Nat} {ah ok : Bool} {n k : Nat} {mC mC0 mR mR0 mC' mR' : Mem} (h : LR b T K B E ah n (k + 1) mC mR ok mC' mR') (hC : ∀ j, gI mC 51 j = gI mC0 51 j) (hR : ∀ j, gI mR 79 j = gI mR0 79 j) : (ok = true ∧ ∃ (k' : Nat) (q : GLn), k < k' ∧ CTG mC' b T K B E k' ∧ RP mR' b T (B k') ∧ KP n q mC0 mC' ∧ AP ah (gI mR0 79) q (gI mR' 79) ∧ gI mC' 46 9 = gI mR' 79 5) ∨ (ok = false ∧ ∃ f, DDG mC' f ∧ gI mR' 78 11 = iI f) := by
  rcases h with ⟨h1, k', q, h2, h3, h4, h5, h6, h7⟩ | h
  · have e : gI mR 79 = gI mR0 79 := funext hR
    rw [e] at h6
    exact Or.inl ⟨h1, k', q, by omega, h3, h4, h5.base hC, h6, h7⟩
  · exact Or.inr h
/-- a line of a ground's text -/
theorem gline_ok {b : Nat → Int} {T K : Nat} {B E : Nat → Nat} {ah : Bool} {n k : Nat} {mC mR : Mem} (h : HX b T K B E n k mC mR) {bc : Nat} (hbc : bc ≤ 60) (hw5 : gI mR 79 5 = iI bc) (h10 : gZ mC 46 10 = ah) (hfi : gI mR 79 10 < 0 ↔ ah = true) : ∃ ok mC' mR', F_GT_readLine mC = some ((), mC') ∧ F_M_readLine true (iI n) mR = some (ok, mR') ∧ ((ok = true ∧ ∃ (k' : Nat) (q : GLn), k < k' ∧ CTG mC' b T K B E k' ∧ RP mR' b T (B k') ∧ KP n q mC mC' ∧ AP ah (gI mR 79) q (gI mR' 79) ∧ gI mC' 46 9 = gI mR' 79 5) ∨ (ok = false ∧ ∃ f, DDG mC' f ∧ gI mR' 78 11 = iI f)) := by
  obtain ⟨hC, ⟨p, hp, hr⟩, h8, hn, hb⟩ := h
  have tf := hC.tf
  have kK := hC.kK
  obtain ⟨m1, e1, r1, g1, f1⟩ := Mletters_ok hr
  rw [hp] at r1 g1
  have hge : B k ≤ wrd b T (B k) := sc_ge _ _ _ _
  have iw : ∀ tx : String, tx.length ≤ 20 → F_M_isWord tx m1 = some (wm b (B k) (wrd b T (B k)) tx, m1) := fun tx hl => MisWord_eq r1 g1 hge (fun i a d => wrd_le127 a d) hl
  have eR : ∀ z m', F_M_readGroundLine m1 = some (z, m') → F_M_readLine true (iI n) mR = some (z, m') := by
    intro z m' e
    unfold F_M_readLine
    rw [bnd_some e1, lt_def, if_pos rfl]
    dsimp only
    rw [if_neg (by rw [lt14, iI_le (by omega) (by omega) (by omega) (by omega)]; omega), if_pos rfl, bnd_some e]
    cases z with
    | true => rw [if_pos rfl]
    | false => rw [if_neg (by decide)]
  have f79 : ∀ j, gI m1 79 j = gI mR 79 j := fun j => fW.w f1 j
  -- behind the line's word
  have nx : ∀ {tx : String}, 0 < tx.length → wm b (B k) (wrd b T (B k)) tx = true → HX b T K B E n (k + 1) (sI mC 46 5 (iI (k + 1 : Nat))) m1 := by
    intro tx h0 hw
    obtain ⟨hk, hW, hE⟩ := tf.word kK h0 hw
    exact ⟨hC.nxt hk, ⟨E k, (tf.nx k hk).symm, by rw [hE]; exact r1⟩, by rw [h46 (by decide)]; exact h8, hn, by rw [h46 (by decide), f79]; exact hb⟩
  by_cases w0 : wm b (B k) (wrd b T (B k)) "sessions" = true
  · have hx := nx (tx := "sessions") (by decide) w0
    by_cases ha : ah = true
    · have hf1 : gI m1 79 10 < 0 := by rw [f79]; exact hfi.2 ha
      obtain ⟨ok, mC', mR', a1, a2, a3⟩ := g_sessions hx hf1
      refine ⟨ok, mC', mR', ?_, eR _ _ ?_, by rw [ha]; exact a3.from h51 f79⟩
      · unfold F_GT_readLine
        rw [lt_def, if_pos (by rw [h10]; exact ha), bnd_some (tG_t hC (by decide) (by decide) w0), if_pos rfl]
        exact a1
      · unfold F_M_readGroundLine
        rw [bnd_some (iw "sessions" (by decide)), w0, if_pos rfl, bnd_some a2]
    · obtain ⟨w1, w2, w3, w4, w5, w6, w7, w8⟩ := sess_ne w0
      have hf1 : ¬ gI m1 79 10 < 0 := by rw [f79]; exact fun q => ha (hfi.1 q)
      refine ⟨false, sI mC 46 6 (iI (B k)), m1, ?_, eR _ _ ?_, Or.inr ⟨rfl, _, ddG_set hC, g1⟩⟩
      · unfold F_GT_readLine
        rw [lt_def, if_neg (by rw [h10]; exact ha)]
        exact GC_bad hC w1 w2 w3 w4 w5 w6 w7 w8
      · unfold F_M_readGroundLine
        rw [bnd_some (iw "sessions" (by decide)), w0, if_pos rfl]
        unfold F_M_readSessions
        rw [if_neg hf1]
        rfl
  · have w0 := wm_b w0
    have eC := GL_no hC w0
    rw [eC]
    by_cases w1 : wm b (B k) (wrd b T (B k)) "side" = true
    · have hx := nx (tx := "side") (by decide) w1
      obtain ⟨ok, mC', mR', a1, a2, a3⟩ := g_side (ah := ah) hx
      refine ⟨ok, mC', mR', ?_, eR _ _ ?_, a3.from h51 f79⟩
      · unfold GC
        rw [bnd_some (tG_t hC (by decide) (by decide) w1), if_pos rfl]
        rw [bnd_some a1]
      · unfold F_M_readGroundLine
        rw [bnd_some (iw "sessions" (by decide)), w0, if_neg (by decide), bnd_some (iw "side" (by decide)), w1, if_pos rfl, bnd_some a2]
    · have w1 := wm_b w1
      by_cases w2 : wm b (B k) (wrd b T (B k)) "slot" = true
      · have hx := nx (tx := "slot") (by decide) w2
        obtain ⟨ok, mC', mR', a1, a2, a3⟩ := g_slot (ah := ah) hx
        refine ⟨ok, mC', mR', ?_, eR _ _ ?_, a3.from h51 f79⟩
        · unfold GC
          rw [bnd_some (tG_f hC (by decide) (by decide) w1), if_neg (by decide), bnd_some (tG_t hC (by decide) (by decide) w2), if_pos rfl]
          rw [bnd_some a1]
        · unfold F_M_readGroundLine
          rw [bnd_some (iw "sessions" (by decide)), w0, if_neg (by decide), bnd_some (iw "side" (by decide)), w1, if_neg (by decide), bnd_some (iw "slot" (by decide)), w2, if_pos rfl, bnd_some a2]
      · have w2 := wm_b w2
        by_cases w3 : wm b (B k) (wrd b T (B k)) "cloud" = true
        · have hx := nx (tx := "cloud") (by decide) w3
          obtain ⟨ok, mC', mR', a1, a2, a3⟩ := g_set (ah := ah) (by omega) hx (i := 0) (by omega) (kd := 3) rfl (ix := 6) rfl
          refine ⟨ok, mC', mR', ?_, eR _ _ ?_, a3.from h51 f79⟩
          · unfold GC
            rw [bnd_some (tG_f hC (by decide) (by decide) w1), if_neg (by decide), bnd_some (tG_f hC (by decide) (by decide) w2), if_neg (by decide), bnd_some (tG_t hC (by decide) (by decide) w3), if_pos rfl]
            exact a1
          · unfold F_M_readGroundLine
            rw [bnd_some (iw "sessions" (by decide)), w0, if_neg (by decide), bnd_some (iw "side" (by decide)), w1, if_neg (by decide), bnd_some (iw "slot" (by decide)), w2, if_neg (by decide), bnd_some (iw "cloud" (by decide)), w3, if_pos rfl, bnd_some a2]
        · have w3 := wm_b w3
          by_cases w4 : wm b (B k) (wrd b T (B k)) "tide" = true
          · have hx := nx (tx := "tide") (by decide) w4
            obtain ⟨ok, mC', mR', a1, a2, a3⟩ := g_set (ah := ah) (by omega) hx (i := 1) (by omega) (kd := 4) rfl (ix := 7) rfl
            refine ⟨ok, mC', mR', ?_, eR _ _ ?_, a3.from h51 f79⟩
            · unfold GC
              rw [bnd_some (tG_f hC (by decide) (by decide) w1), if_neg (by decide), bnd_some (tG_f hC (by decide) (by decide) w2), if_neg (by decide), bnd_some (tG_f hC (by decide) (by decide) w3), if_neg (by decide), bnd_some (tG_t hC (by decide) (by decide) w4), if_pos rfl]
              exact a1
            · unfold F_M_readGroundLine
              rw [bnd_some (iw "sessions" (by decide)), w0, if_neg (by decide), bnd_some (iw "side" (by decide)), w1, if_neg (by decide), bnd_some (iw "slot" (by decide)), w2, if_neg (by decide), bnd_some (iw "cloud" (by decide)), w3, if_neg (by decide), bnd_some (iw "tide" (by decide)), w4, if_pos rfl, bnd_some a2]
          · have w4 := wm_b w4
            by_cases w5 : wm b (B k) (wrd b T (B k)) "rain" = true
            · have hx := nx (tx := "rain") (by decide) w5
              obtain ⟨ok, mC', mR', a1, a2, a3⟩ := g_set (ah := ah) (by omega) hx (i := 2) (by omega) (kd := 5) rfl (ix := 8) rfl
              refine ⟨ok, mC', mR', ?_, eR _ _ ?_, a3.from h51 f79⟩
              · unfold GC
                rw [bnd_some (tG_f hC (by decide) (by decide) w1), if_neg (by decide), bnd_some (tG_f hC (by decide) (by decide) w2), if_neg (by decide), bnd_some (tG_f hC (by decide) (by decide) w3), if_neg (by decide), bnd_some (tG_f hC (by decide) (by decide) w4), if_neg (by decide), bnd_some (tG_t hC (by decide) (by decide) w5), if_pos rfl]
                exact a1
              · unfold F_M_readGroundLine
                rw [bnd_some (iw "sessions" (by decide)), w0, if_neg (by decide), bnd_some (iw "side" (by decide)), w1, if_neg (by decide), bnd_some (iw "slot" (by decide)), w2, if_neg (by decide), bnd_some (iw "cloud" (by decide)), w3, if_neg (by decide), bnd_some (iw "tide" (by decide)), w4, if_neg (by decide), bnd_some (iw "rain" (by decide)), w5, if_pos rfl, bnd_some a2]
            · have w5 := wm_b w5
              by_cases w6 : wm b (B k) (wrd b T (B k)) "margin" = true
              · have hx := nx (tx := "margin") (by decide) w6
                obtain ⟨ok, mC', mR', a1, a2, a3⟩ := g_margin (ah := ah) hx
                refine ⟨ok, mC', mR', ?_, eR _ _ ?_, a3.from h51 f79⟩
                · unfold GC
                  rw [bnd_some (tG_f hC (by decide) (by decide) w1), if_neg (by decide), bnd_some (tG_f hC (by decide) (by decide) w2), if_neg (by decide), bnd_some (tG_f hC (by decide) (by decide) w3), if_neg (by decide), bnd_some (tG_f hC (by decide) (by decide) w4), if_neg (by decide), bnd_some (tG_f hC (by decide) (by decide) w5), if_neg (by decide), bnd_some (tG_t hC (by decide) (by decide) w6), if_pos rfl]
                  exact a1
                · unfold F_M_readGroundLine
                  rw [bnd_some (iw "sessions" (by decide)), w0, if_neg (by decide), bnd_some (iw "side" (by decide)), w1, if_neg (by decide), bnd_some (iw "slot" (by decide)), w2, if_neg (by decide), bnd_some (iw "cloud" (by decide)), w3, if_neg (by decide), bnd_some (iw "tide" (by decide)), w4, if_neg (by decide), bnd_some (iw "rain" (by decide)), w5, if_neg (by decide), bnd_some (iw "margin" (by decide)), w6, if_pos rfl, bnd_some a2]
              · have w6 := wm_b w6
                by_cases w7 : wm b (B k) (wrd b T (B k)) "drawworth" = true
                · have hx := nx (tx := "drawworth") (by decide) w7
                  obtain ⟨ok, mC', mR', a1, a2, a3⟩ := g_draw (ah := ah) hx
                  refine ⟨ok, mC', mR', ?_, eR _ _ ?_, a3.from h51 f79⟩
                  · unfold GC
                    rw [bnd_some (tG_f hC (by decide) (by decide) w1), if_neg (by decide), bnd_some (tG_f hC (by decide) (by decide) w2), if_neg (by decide), bnd_some (tG_f hC (by decide) (by decide) w3), if_neg (by decide), bnd_some (tG_f hC (by decide) (by decide) w4), if_neg (by decide), bnd_some (tG_f hC (by decide) (by decide) w5), if_neg (by decide), bnd_some (tG_f hC (by decide) (by decide) w6), if_neg (by decide), bnd_some (tG_t hC (by decide) (by decide) w7), if_pos rfl]
                    exact a1
                  · unfold F_M_readGroundLine
                    rw [bnd_some (iw "sessions" (by decide)), w0, if_neg (by decide), bnd_some (iw "side" (by decide)), w1, if_neg (by decide), bnd_some (iw "slot" (by decide)), w2, if_neg (by decide), bnd_some (iw "cloud" (by decide)), w3, if_neg (by decide), bnd_some (iw "tide" (by decide)), w4, if_neg (by decide), bnd_some (iw "rain" (by decide)), w5, if_neg (by decide), bnd_some (iw "margin" (by decide)), w6, if_neg (by decide), bnd_some (iw "drawworth" (by decide)), w7, if_pos rfl, bnd_some a2]
                · have w7 := wm_b w7
                  by_cases w8 : wm b (B k) (wrd b T (B k)) "book" = true
                  · by_cases h60 : bc = 60
                    · refine ⟨false, sI mC 46 6 (iI (B k)), m1, GC_full hC (by rw [hb, hw5, h60]; decide) w1 w2 w3 w4 w5 w6 w7, eR _ _ ?_, Or.inr ⟨rfl, _, ddG_set hC, g1⟩⟩
                      unfold F_M_readGroundLine
                      rw [bnd_some (iw "sessions" (by decide)), w0, if_neg (by decide), bnd_some (iw "side" (by decide)), w1, if_neg (by decide), bnd_some (iw "slot" (by decide)), w2, if_neg (by decide), bnd_some (iw "cloud" (by decide)), w3, if_neg (by decide), bnd_some (iw "tide" (by decide)), w4, if_neg (by decide), bnd_some (iw "rain" (by decide)), w5, if_neg (by decide), bnd_some (iw "margin" (by decide)), w6, if_neg (by decide), bnd_some (iw "drawworth" (by decide)), w7, if_neg (by decide), bnd_some (iw "book" (by decide)), w8, if_pos rfl]
                      unfold F_M_readBook
                      rw [lt_def, if_pos (by rw [f79, hw5, h60]; rfl)]
                      rfl
                    · have hx := nx (tx := "book") (by decide) w8
                      obtain ⟨ok, mC', mR', a1, a2, a3⟩ := g_book (ah := ah) hx (bc := bc) (by omega) (by rw [f79]; exact hw5)
                      refine ⟨ok, mC', mR', ?_, eR _ _ ?_, a3.from h51 f79⟩
                      · unfold GC
                        rw [bnd_some (tG_f hC (by decide) (by decide) w1), if_neg (by decide), bnd_some (tG_f hC (by decide) (by decide) w2), if_neg (by decide), bnd_some (tG_f hC (by decide) (by decide) w3), if_neg (by decide), bnd_some (tG_f hC (by decide) (by decide) w4), if_neg (by decide), bnd_some (tG_f hC (by decide) (by decide) w5), if_neg (by decide), bnd_some (tG_f hC (by decide) (by decide) w6), if_neg (by decide), bnd_some (tG_f hC (by decide) (by decide) w7), if_neg (by decide), lt_def, if_neg (by rw [hb, hw5, lt60, iI_le (by omega) (by omega) (by omega) (by omega)]; omega), bnd_some (tG_t hC (by decide) (by decide) w8), if_pos rfl, bnd_some a1]
                      · unfold F_M_readGroundLine
                        rw [bnd_some (iw "sessions" (by decide)), w0, if_neg (by decide), bnd_some (iw "side" (by decide)), w1, if_neg (by decide), bnd_some (iw "slot" (by decide)), w2, if_neg (by decide), bnd_some (iw "cloud" (by decide)), w3, if_neg (by decide), bnd_some (iw "tide" (by decide)), w4, if_neg (by decide), bnd_some (iw "rain" (by decide)), w5, if_neg (by decide), bnd_some (iw "margin" (by decide)), w6, if_neg (by decide), bnd_some (iw "drawworth" (by decide)), w7, if_neg (by decide), bnd_some (iw "book" (by decide)), w8, if_pos rfl, bnd_some a2]
                        cases ok with
                        | true => rw [if_pos rfl]
                        | false => rw [if_neg (by decide)]
                  · have w8 := wm_b w8
                    refine ⟨false, sI mC 46 6 (iI (B k)), m1, GC_bad hC w1 w2 w3 w4 w5 w6 w7 w8, eR _ _ ?_, Or.inr ⟨rfl, _, ddG_set hC, g1⟩⟩
                    unfold F_M_readGroundLine
                    rw [bnd_some (iw "sessions" (by decide)), w0, if_neg (by decide), bnd_some (iw "side" (by decide)), w1, if_neg (by decide), bnd_some (iw "slot" (by decide)), w2, if_neg (by decide), bnd_some (iw "cloud" (by decide)), w3, if_neg (by decide), bnd_some (iw "tide" (by decide)), w4, if_neg (by decide), bnd_some (iw "rain" (by decide)), w5, if_neg (by decide), bnd_some (iw "margin" (by decide)), w6, if_neg (by decide), bnd_some (iw "drawworth" (by decide)), w7, if_neg (by decide), bnd_some (iw "book" (by decide)), w8, if_neg (by decide)]
/-- n lines of a ground's text have come, in class and reference -/
def IG (ah : Bool) (w0 : Nat → Int32) (b : Nat → Int) (T K n k : Nat) (mC mR : Mem) : Prop := ∃ (l : List GLn) (bc : Nat), l.length = n ∧ CTG mC b T K (Bq b T) (Eq1 b T) k ∧ RP mR b T (Bq b T k) ∧ APs ah w0 l (gI mR 79) ∧ RowsG mC 0 l ∧ gI mC 46 8 = iI n ∧ gI mC 46 9 = gI mR 79 5 ∧ bc ≤ 60 ∧ gI mR 79 5 = iI bc ∧ gZ mC 46 10 = ah ∧ (gI mR 79 10 < 0 ↔ ah = true)
theorem AP_5 {ah : Bool} {w w' : Nat → Int32} {q : GLn} (h : AP ah w q w') {bc : Nat} (hb : bc ≤ 60) (h5 : w 5 = iI bc) : (∃ bc' : Nat, bc' ≤ 60 ∧ w' 5 = iI bc') ∧ w' 10 = w 10 := by
  rcases h with ⟨-, -, a, -, -, -, e⟩ | ⟨-, a, x, y, -, -, -, -, -, -, e⟩ | ⟨-, a, c, x, y, -, -, -, -, -, -, -, -, e⟩ | ⟨i, hi, -, e⟩ | ⟨-, a, -, -, e⟩ | ⟨-, a, -, -, e⟩ | ⟨-, bc1, a, x, y, hb1, h51, -, -, -, -, -, -, e⟩
  · exact ⟨⟨bc, hb, by rw [e, if_neg (by omega)]; exact h5⟩, by rw [e, if_neg (by omega)]⟩
  · exact ⟨⟨bc, hb, by rw [e, if_neg (by omega), if_neg (by omega)]; exact h5⟩, by rw [e, if_neg (by omega), if_neg (by omega)]⟩
  · exact ⟨⟨bc, hb, by rw [e, if_neg (by omega), if_neg (by omega)]; exact h5⟩, by rw [e, if_neg (by omega), if_neg (by omega)]⟩
  · exact ⟨⟨bc, hb, by rw [e, if_neg (by omega)]; exact h5⟩, by rw [e, if_neg (by omega)]⟩
  · exact ⟨⟨bc, hb, by rw [e, if_neg (by omega)]; exact h5⟩, by rw [e, if_neg (by omega)]⟩
  · exact ⟨⟨bc, hb, by rw [e, if_neg (by omega)]; exact h5⟩, by rw [e, if_neg (by omega)]⟩
  · exact ⟨⟨bc1 + 1, by omega, by rw [e, if_neg (by omega), if_neg (by omega), if_neg (by omega), if_pos rfl]⟩, by rw [e, if_neg (by omega), if_neg (by omega), if_neg (by omega), if_neg (by omega)]⟩
theorem IG.hC {ah : Bool} {w0 : Nat → Int32} {b : Nat → Int} {T K n k : Nat} {mC mR : Mem} (h : IG ah w0 b T K n k mC mR) : CTG mC b T K (Bq b T) (Eq1 b T) k ∧ ∃ p, blk b T p = Bq b T k ∧ RSc mR b T p := by
  obtain ⟨l, bc, x1, hC, hR, -⟩ := h
  exact ⟨hC, hR⟩
theorem IG.to {ah : Bool} {w0 : Nat → Int32} {b : Nat → Int} {T K n k k' : Nat} {mC mC' mR mR' : Mem} (h : IG ah w0 b T K n k mC mR) (c : CTG mC' b T K (Bq b T) (Eq1 b T) k') (r : RP mR' b T (Bq b T k')) (fC : Fr [] [(46, 5)] mC mC') (fR : fW mR mR') : IG ah w0 b T K n k' mC' mR' := by
  obtain ⟨l, bc, x1, hC, hR, x2, x3, x4, x5, x6, x7, x8, x9⟩ := h
  have e : gI mR' 79 = gI mR 79 := funext (fun j => fW.w fR j)
  refine ⟨l, bc, x1, c, r, by rw [e]; exact x2, RowsG_cg (fun j _ => fC.gI (by simp) (by simp)) x3, (fC.gI (by simp) (by simp)).trans x4, ?_, x6, by rw [e]; exact x7, (fC.gZ (by simp) (by simp)).trans x8, by rw [e]; exact x9⟩
  rw [fC.gI (by simp) (by simp), e]
  exact x5
theorem IG.hL {ah : Bool} {w0 : Nat → Int32} {b : Nat → Int} {T K n k : Nat} {mC mR : Mem} (hn : n < 14) (h : IG ah w0 b T K n k mC mR) : ∃ ok mC' mR', F_GT_readLine mC = some ((), mC') ∧ F_M_readLine true (iI n) mR = some (ok, mR') ∧ ((ok = true ∧ ∃ k', k < k' ∧ IG ah w0 b T K (n + 1) k' mC' mR') ∨ (ok = false ∧ ∃ f, DDG mC' f ∧ gI mR' 78 11 = iI f)) := by
  obtain ⟨l, bc, x1, hC, hR, x2, x3, x4, x5, x6, x7, x8, x9⟩ := h
  obtain ⟨ok, mC', mR', e1, e2, e3⟩ := gline_ok (ah := ah) ⟨hC, hR, x4, hn, x5⟩ x6 x7 x8 x9
  refine ⟨ok, mC', mR', e1, e2, ?_⟩
  rcases e3 with ⟨h1, k', q, h2, h3, h4, ⟨h5, h6, h7⟩, h8, h9⟩ | h1
  · obtain ⟨⟨bc', b1, b2⟩, b3⟩ := AP_5 h8 x6 x7
    refine Or.inl ⟨h1, k', h2, l ++ [q], bc', by simp [x1], h3, h4, APs_snoc x2 h8, RowsG_snoc (RowsG_cg (fun j hj => h7 j (by omega)) x3) (by rw [x1, Nat.zero_add]; exact h6), h5, h9, b1, b2, ?_, by rw [b3]; exact x9⟩
    rw [(fr_GT_readLine _ _ _ e1).gZ (by simp) (by simp)]
    exact x8
  · exact Or.inr h1
theorem IG.hE {ah : Bool} {w0 : Nat → Int32} {b : Nat → Int} {T K k : Nat} {mC mR : Mem} (h : IG ah w0 b T K 14 k mC mR) : ∃ mR', F_M_readLine true (iI (14 : Nat)) mR = some (false, mR') ∧ gI mR' 78 11 = iI (Bq b T k) := by
  obtain ⟨l, bc, x1, hC, ⟨p, hp, hr⟩, -⟩ := h
  obtain ⟨m1, e1, r1, g1, f1⟩ := Mletters_ok hr
  rw [hp] at g1
  refine ⟨m1, ?_, g1⟩
  unfold F_M_readLine
  rw [bnd_some e1, lt_def, if_pos rfl]
  dsimp only
  rw [if_pos (by decide)]
/-- a ground's text, in class and reference -/
theorem groundtext {ah : Bool} {b : Nat → Int} {T : Nat} {mC0 mR0 : Mem} (hB : BT mC0 b T) (hR0 : RT mR0 b T) (h8 : gI mR0 78 8 = iI T) (k8 : gI mC0 46 8 = iI 0) (k9 : gI mC0 46 9 = gI mR0 79 5) {bc : Nat} (hbc : bc ≤ 60) (hw5 : gI mR0 79 5 = iI bc) (h10 : gZ mC0 46 10 = ah) (hfi : gI mR0 79 10 < 0 ↔ ah = true) : ∃ (r : Int32) (mC' : Mem) (v : Int32) (mR' : Mem), F_Tx_readLinesG (iI T) (14 : Int32) mC0 = some (r, mC') ∧ F_M_readAll true mR0 = some (v, mR') ∧ ((gI mC' 46 6 = iI (-1) ∧ ∃ l : List GLn, l.length ≤ 14 ∧ v = iI l.length ∧ gI mC' 46 8 = iI l.length ∧ RowsG mC' 0 l ∧ APs ah (gI mR0 79) l (gI mR' 79)) ∨ (v = iI (-1) ∧ ∃ f : Nat, gI mC' 46 6 = iI f ∧ f ≤ 400 ∧ gI mR' 78 11 = iI f)) := by
  obtain ⟨K, r, mC', v, mR', e1, e2, e3⟩ := textG (fun K n k mC mR => IG ah (gI mR0 79) b T K n k mC mR) (most := 14) (by omega) true hB hR0 h8
    (fun K n k mC mR h => IG.hC h) (fun K n k mC mR mR' h hr hf => h.to h.hC.1 ⟨Bq b T k, h.hC.1.tf.bl h.hC.1.kK, hr⟩ Fr_rf hf) (fun K n k mC mR mR' h hk hb hr hf => h.to (h.hC.1.nxt hk) ⟨Bq b T k + 1, hb, hr⟩ (Fr_sI rfl Fr_rf (by simp)) hf) (fun K n k mC mR hn h => IG.hL hn h) (fun K k mC mR h => IG.hE h) (fun K mC mR hct hfC hr h15 hfR => by
      have e : gI mR 79 = gI mR0 79 := funext (fun j => hfR.gI (by simp) (by simp))
      refine ⟨[], bc, rfl, hct, ⟨Bq b T 0, hct.tf.bl (Nat.zero_le _), hr⟩, fun j => by rw [e], trivial, (hfC.gI (by simp) (by simp)).trans k8, ?_, hbc, by rw [e]; exact hw5, (hfC.gZ (by simp) (by simp)).trans h10, by rw [e]; exact hfi⟩
      rw [hfC.gI (by simp) (by simp), e]
      exact k9)
  refine ⟨r, mC', v, mR', e1, e2, ?_⟩
  rcases e3 with ⟨n', h1, h2, h3, l, bc', x1, hC, hR, x2, x3, x4, x5⟩ | ⟨h1, f, h2, h3⟩
  · exact Or.inl ⟨hC.wr, l, by omega, by rw [h3, x1], by rw [x4, x1], x3, x2⟩
  · exact Or.inr ⟨h1, f, h2.1, h2.2, h3⟩
end GLINE
