section SCAN
/-- the end of a run of bytes from q on, T being the text's end -/
def scn (p : Int → Bool) (b : Nat → Int) : Nat → Nat → Nat
  | 0, q => q
  | d + 1, q => if p (b q) = true then scn p b d (q + 1) else q
def sc (p : Int → Bool) (b : Nat → Int) (T q : Nat) : Nat := scn p b (T - q) q
theorem sc_T {p : Int → Bool} {b : Nat → Int} {T q : Nat} (h : T ≤ q) : sc p b T q = q := by
  unfold sc
  rw [show T - q = 0 by omega]
  rfl
theorem sc_t {p : Int → Bool} {b : Nat → Int} {T q : Nat} (h : q < T) (hp : p (b q) = true) : sc p b T q = sc p b T (q + 1) := by
  unfold sc
  rw [show T - q = (T - (q + 1)) + 1 by omega]
  show (if p (b q) = true then scn p b (T - (q + 1)) (q + 1) else q) = _
  rw [if_pos hp]
theorem sc_f {p : Int → Bool} {b : Nat → Int} {T q : Nat} (hp : ¬ p (b q) = true) : sc p b T q = q := by
  unfold sc
  cases T - q with
  | zero => rfl
  | succ d =>
    show (if p (b q) = true then scn p b d (q + 1) else q) = _
    rw [if_neg hp]
theorem sc_all (p : Int → Bool) (b : Nat → Int) (T : Nat) : ∀ (d q : Nat), T - q = d → q ≤ sc p b T q ∧ (q ≤ T → sc p b T q ≤ T) ∧ (∀ i, q ≤ i → i < sc p b T q → i < T ∧ p (b i) = true) ∧ (sc p b T q < T → ¬ p (b (sc p b T q)) = true) := by
  intro d
  induction d with
  | zero =>
    intro q hq
    rw [sc_T (by omega)]
    exact ⟨Nat.le_refl _, fun h => h, fun i a c => by omega, fun h => by omega⟩
  | succ d ih =>
    intro q hq
    by_cases hp : p (b q) = true
    · obtain ⟨a1, a2, a3, a4⟩ := ih (q + 1) (by omega)
      rw [sc_t (by omega) hp]
      refine ⟨by omega, fun _ => a2 (by omega), fun i c1 c2 => ?_, a4⟩
      by_cases hi : i = q
      · rw [hi]; exact ⟨by omega, hp⟩
      · exact a3 i (by omega) c2
    · rw [sc_f hp]
      exact ⟨Nat.le_refl _, fun h => h, fun i a c => by omega, fun _ => hp⟩
theorem sc_ge (p : Int → Bool) (b : Nat → Int) (T q : Nat) : q ≤ sc p b T q := (sc_all p b T _ q rfl).1
theorem sc_le (p : Int → Bool) (b : Nat → Int) {T q : Nat} (h : q ≤ T) : sc p b T q ≤ T := (sc_all p b T _ q rfl).2.1 h
theorem sc_in {p : Int → Bool} {b : Nat → Int} {T q i : Nat} (h1 : q ≤ i) (h2 : i < sc p b T q) : i < T ∧ p (b i) = true := (sc_all p b T _ q rfl).2.2.1 i h1 h2
theorem sc_end {p : Int → Bool} {b : Nat → Int} {T q : Nat} (h : sc p b T q < T) : ¬ p (b (sc p b T q)) = true := (sc_all p b T _ q rfl).2.2.2 h
theorem sc_idem (p : Int → Bool) (b : Nat → Int) {T q : Nat} (h : q ≤ T) : sc p b T (sc p b T q) = sc p b T q := by
  by_cases hT : sc p b T q < T
  · exact sc_f (sc_end hT)
  · exact sc_T (by omega)
def isB (x : Int) : Bool := decide (x = 32)
def isW (x : Int) : Bool := decide (97 ≤ x ∧ x ≤ 122)
def isD (x : Int) : Bool := decide (48 ≤ x ∧ x ≤ 57)
def blk (b : Nat → Int) (T q : Nat) : Nat := sc isB b T q
def wrd (b : Nat → Int) (T q : Nat) : Nat := sc isW b T q
def dig (b : Nat → Int) (T q : Nat) : Nat := sc isD b T q
theorem isW_e {x : Int} : isW x = true ↔ 97 ≤ x ∧ x ≤ 122 := by unfold isW; exact decide_eq_true_iff
theorem isD_e {x : Int} : isD x = true ↔ 48 ≤ x ∧ x ≤ 57 := by unfold isD; exact decide_eq_true_iff
theorem isB_e {x : Int} : isB x = true ↔ x = 32 := by unfold isB; exact decide_eq_true_iff
theorem nI_iI (n : Nat) : nI n = iI n := by
  apply Int32.toBitVec_inj.mp
  show BitVec.ofNat 32 n = BitVec.ofInt 32 (n : Int)
  simp
/-- whether the word from g to e is that one -/
def wm (b : Nat → Int) (g e : Nat) (tx : String) : Bool := decide (e = g + tx.length ∧ ∀ i, i < tx.length → iI (b (g + i)) = txB tx i)
/-- the first digits as a number -/
def nvl (b : Nat → Int) (q : Nat) : Nat → Int
  | 0 => 0
  | k + 1 => 10 * nvl b q k + (b (q + k) - 48)
theorem nvl_s (b : Nat → Int) (q k : Nat) : nvl b q (k + 1) = 10 * nvl b q k + (b (q + k) - 48) := rfl
theorem nvl_rng {b : Nat → Int} {q k : Nat} (hk : k ≤ 3) (h : ∀ i, i < k → 48 ≤ b (q + i) ∧ b (q + i) ≤ 57) : 0 ≤ nvl b q k ∧ nvl b q k ≤ 999 := by
  have e0 : nvl b q 0 = 0 := rfl
  rcases (show k = 0 ∨ k = 1 ∨ k = 2 ∨ k = 3 by omega) with rfl | rfl | rfl | rfl
  · rw [e0]; omega
  · have h0 := h 0 (by omega)
    rw [nvl_s, e0]; omega
  · have h0 := h 0 (by omega)
    have h1 := h 1 (by omega)
    rw [nvl_s, nvl_s, e0]; omega
  · have h0 := h 0 (by omega)
    have h1 := h 1 (by omega)
    have h2 := h 2 (by omega)
    rw [nvl_s, nvl_s, nvl_s, e0]; omega
def nvq (b : Nat → Int) (T q : Nat) : Int := nvl b q (min (dig b T q - q) 3)
def nok (b : Nat → Int) (T q : Nat) (lo hi : Int) : Bool := decide (q < dig b T q ∧ dig b T q - q ≤ 3 ∧ lo ≤ nvq b T q ∧ nvq b T q ≤ hi)
theorem nok_e {b : Nat → Int} {T q : Nat} {lo hi : Int} : nok b T q lo hi = true ↔ q < dig b T q ∧ dig b T q - q ≤ 3 ∧ lo ≤ nvq b T q ∧ nvq b T q ≤ hi := by unfold nok; exact decide_eq_true_iff
theorem nvq_rng (b : Nat → Int) (T q : Nat) : 0 ≤ nvq b T q ∧ nvq b T q ≤ 999 := by
  refine nvl_rng (by omega) (fun i hi => ?_)
  have := (sc_in (p := isD) (b := b) (T := T) (q := q) (i := q + i) (by omega) (by unfold dig at hi; omega)).2
  exact isD_e.1 this
/-! the reference -/
def RSc (m : Mem) (b : Nat → Int) (T p : Nat) : Prop := RT m b T ∧ gI m 78 10 = iI T ∧ gI m 78 9 = iI p ∧ p ≤ T
theorem RSc.set {m : Mem} {b : Nat → Int} {T p : Nat} (h : RSc m b T p) {p' : Nat} (hp : p' ≤ T) : RSc (sI m 78 9 (iI p')) b T p' := by
  obtain ⟨h1, h2, h3, h4⟩ := h
  refine ⟨h1.cg (fun j => ?_), ?_, by rw [gI_sI, if_pos ⟨rfl, rfl⟩], hp⟩
  · rw [gI_sI, if_neg (fun q => absurd q.1 (by decide))]
  · rw [gI_sI, if_neg (fun q => absurd q.2 (by decide))]; exact h2
theorem RSc.cg {m m' : Mem} {b : Nat → Int} {T p : Nat} (h : RSc m b T p) (h83 : ∀ j, gI m' 83 j = gI m 83 j) (h10 : gI m' 78 10 = gI m 78 10) (h9 : gI m' 78 9 = gI m 78 9) : RSc m' b T p := ⟨h.1.cg h83, h10.trans h.2.1, h9.trans h.2.2.1, h.2.2.2⟩
theorem MisAt_eq {m : Mem} {b : Nat → Int} {T p : Nat} (h : RSc m b T p) {lo hi : Int} (l0 : 0 ≤ lo) (lh : lo ≤ hi) (h1 : hi ≤ 127) : F_M_isAt (iI lo) (iI hi) m = some (decide (p < T ∧ lo ≤ b p ∧ b p ≤ hi), m) := by
  obtain ⟨⟨hT, hb⟩, h10, h9, hp⟩ := h
  unfold F_M_isAt
  rw [h10, h9]
  by_cases hpT : p < T
  · obtain ⟨e, b0, b1⟩ := hb p hpT
    have hr := sb_rng b0 b1
    have hs : lo ≤ sb (b p) ∧ sb (b p) ≤ hi ↔ lo ≤ b p ∧ b p ≤ hi := by unfold sb; split <;> omega
    rw [if_neg (by rw [iI_le (by omega) (by omega) (by omega) (by omega)]; omega), ckB_t (iI_inb (by omega) (by omega) (by omega)), lt_def, iI_idx (by omega) (by omega), Int.toNat_natCast, e]
    by_cases c1 : sb (b p) < lo
    · rw [if_pos (by rw [iI_lt (by omega) (by omega) (by omega) (by omega)]; exact c1), decide_eq_false (by omega)]
    · rw [if_neg (by rw [iI_lt (by omega) (by omega) (by omega) (by omega)]; exact c1), ckB_t (iI_inb (by omega) (by omega) (by omega)), lt_def]
      by_cases c2 : hi < sb (b p)
      · rw [if_pos (by rw [iI_lt (by omega) (by omega) (by omega) (by omega)]; exact c2), decide_eq_false (by omega)]
      · rw [if_neg (by rw [iI_lt (by omega) (by omega) (by omega) (by omega)]; exact c2), decide_eq_true (by omega)]
  · rw [if_pos (by rw [iI_le (by omega) (by omega) (by omega) (by omega)]; omega), decide_eq_false (fun q => hpT q.1)]
theorem Mblanks_L {b : Nat → Int} {T : Nat} (k : Mem → Option (Unit × Mem)) : ∀ (d p nf : Nat) (m : Mem), T - p = d → d < nf → RSc m b T p → ∃ m', F_M_blanks_L0 k nf m = k m' ∧ RSc m' b T (blk b T p) ∧ Fr [] [(78, 9)] m m' := by
  intro d
  induction d with
  | zero =>
    intro p nf m hd hnf h
    obtain ⟨nf, rfl⟩ : ∃ x, nf = x + 1 := ⟨nf - 1, by omega⟩
    refine ⟨m, ?_, by unfold blk; rw [sc_T (by omega)]; exact h, Fr_rf⟩
    rw [F_M_blanks_L0, show (32 : Int32) = iI 32 from rfl, bnd_some (MisAt_eq h (by omega) (by omega) (by omega)), decide_eq_false (by omega), if_neg (by decide)]
  | succ d ih =>
    intro p nf m hd hnf h
    obtain ⟨nf, rfl⟩ : ∃ x, nf = x + 1 := ⟨nf - 1, by omega⟩
    have h400 := h.1.1
    rw [F_M_blanks_L0, show (32 : Int32) = iI 32 from rfl, bnd_some (MisAt_eq h (by omega) (by omega) (by omega))]
    by_cases hp : b p = 32
    · obtain ⟨m', e, r, f⟩ := ih (p + 1) nf (sI m 78 9 (iI (p + 1 : Nat))) (by omega) (by omega) (h.set (by omega))
      refine ⟨m', ?_, ?_, Fr_tr (Fr_sI rfl Fr_rf (by simp)) f (by simp) (by simp)⟩
      · rw [decide_eq_true (by omega), if_pos rfl, h.2.2.1, lt_def, lt1, iI_add]
        exact e
      · unfold blk at r ⊢
        rw [sc_t (by omega) (isB_e.2 hp)]
        exact r
    · refine ⟨m, ?_, by unfold blk; rw [sc_f (fun q => hp (isB_e.1 q))]; exact h, Fr_rf⟩
      rw [decide_eq_false (by omega), if_neg (by decide)]
theorem Mblanks_ok {m : Mem} {b : Nat → Int} {T p : Nat} (h : RSc m b T p) : ∃ m', F_M_blanks m = some ((), m') ∧ RSc m' b T (blk b T p) ∧ gI m' 78 11 = iI (blk b T p) ∧ Fr [] [(78, 9), (78, 11)] m m' := by
  have h400 := h.1.1
  obtain ⟨N, hN⟩ : ∃ N : Nat, N = 1000000 := ⟨_, rfl⟩
  obtain ⟨m1, e, r, f⟩ := Mblanks_L (b := b) (T := T) (fun (mq1 : Mem) => ((lt (sI mq1 78 11 (gI mq1 78 9)) fun mq2 => some ((), mq2)) : Option (Unit × Mem))) (T - p) p N m rfl (by omega) h
  refine ⟨sI m1 78 11 (iI (blk b T p)), ?_, ?_, ?_, ?_⟩
  · unfold F_M_blanks
    rw [← hN, lt_def]
    refine e.trans ?_
    rw [r.2.2.1]
    rfl
  · refine r.cg (fun j => ?_) ?_ ?_
    · rw [gI_sI, if_neg (fun q => absurd q.1 (by decide))]
    · rw [gI_sI, if_neg (fun q => absurd q.2 (by decide))]
    · rw [gI_sI, if_neg (fun q => absurd q.2 (by decide))]
  · rw [gI_sI, if_pos ⟨rfl, rfl⟩]
  · exact Fr_sI rfl (Fr_wk f (by simp) (by simp)) (by simp)
theorem Mletters_L {b : Nat → Int} {T : Nat} : ∀ (d p nf : Nat) (m : Mem), T - p = d → d < nf → RSc m b T p → ∃ m', F_M_letters_L4 nf m = some ((), m') ∧ RSc m' b T (wrd b T p) ∧ Fr [] [(78, 9)] m m' := by
  intro d
  induction d with
  | zero =>
    intro p nf m hd hnf h
    obtain ⟨nf, rfl⟩ : ∃ x, nf = x + 1 := ⟨nf - 1, by omega⟩
    refine ⟨m, ?_, by unfold wrd; rw [sc_T (by omega)]; exact h, Fr_rf⟩
    rw [F_M_letters_L4, show (97 : Int32) = iI 97 from rfl, show (122 : Int32) = iI 122 from rfl, bnd_some (MisAt_eq h (by omega) (by omega) (by omega)), decide_eq_false (by omega), if_neg (by decide)]
  | succ d ih =>
    intro p nf m hd hnf h
    obtain ⟨nf, rfl⟩ : ∃ x, nf = x + 1 := ⟨nf - 1, by omega⟩
    have h400 := h.1.1
    rw [F_M_letters_L4, show (97 : Int32) = iI 97 from rfl, show (122 : Int32) = iI 122 from rfl, bnd_some (MisAt_eq h (by omega) (by omega) (by omega))]
    by_cases hp : 97 ≤ b p ∧ b p ≤ 122
    · obtain ⟨m', e, r, f⟩ := ih (p + 1) nf (sI m 78 9 (iI (p + 1 : Nat))) (by omega) (by omega) (h.set (by omega))
      refine ⟨m', ?_, ?_, Fr_tr (Fr_sI rfl Fr_rf (by simp)) f (by simp) (by simp)⟩
      · rw [decide_eq_true (by omega), if_pos rfl, h.2.2.1, lt_def, lt1, iI_add]
        exact e
      · unfold wrd at r ⊢
        rw [sc_t (by omega) (isW_e.2 hp)]
        exact r
    · refine ⟨m, ?_, by unfold wrd; rw [sc_f (fun q => hp (isW_e.1 q))]; exact h, Fr_rf⟩
      rw [decide_eq_false (by omega), if_neg (by decide)]
theorem Mletters_ok {m : Mem} {b : Nat → Int} {T p : Nat} (h : RSc m b T p) : ∃ m', F_M_letters m = some ((), m') ∧ RSc m' b T (wrd b T (blk b T p)) ∧ gI m' 78 11 = iI (blk b T p) ∧ Fr [] [(78, 9), (78, 11)] m m' := by
  have h400 := h.1.1
  obtain ⟨N, hN⟩ : ∃ N : Nat, N = 1000000 := ⟨_, rfl⟩
  obtain ⟨m1, e1, r1, g1, f1⟩ := Mblanks_ok h
  obtain ⟨m2, e2, r2, f2⟩ := Mletters_L (T - blk b T p) (blk b T p) N m1 rfl (by omega) r1
  refine ⟨m2, ?_, r2, ?_, Fr_tr f1 f2 (by simp) (by simp)⟩
  · unfold F_M_letters
    rw [← hN, bnd_some e1]
    exact e2
  · rw [f2.gI (by simp) (by simp)]
    exact g1
theorem MisWord_eq {m : Mem} {b : Nat → Int} {T g e : Nat} (h : RSc m b T e) (h11 : gI m 78 11 = iI g) (hge : g ≤ e) (hlet : ∀ i, g ≤ i → i < e → b i ≤ 127) {tx : String} (hl : tx.length ≤ 20) : F_M_isWord tx m = some (wm b g e tx, m) := by
  obtain ⟨⟨hT, hb⟩, h10, h9, hp⟩ := h
  obtain ⟨N, hN⟩ : ∃ N : Nat, N = 1000000 := ⟨_, rfl⟩
  have up : e = g + tx.length → ∀ (d k nf : Nat) (is : Bool), k + d = tx.length → d < nf → F_M_isWord_L24 tx nf is (iI k) m = some (is && decide (∀ i, i < tx.length → k ≤ i → iI (b (g + i)) = txB tx i), m) := by
    intro hlen d
    induction d with
    | zero =>
      intro k nf is hk hnf
      obtain ⟨nf, rfl⟩ : ∃ x, nf = x + 1 := ⟨nf - 1, by omega⟩
      rw [F_M_isWord_L24, decide_eq_true (fun i hi hi2 => by omega), Bool.and_true]
      cases is with
      | false => rw [if_neg (by decide)]
      | true => rw [if_pos rfl, nI_iI, if_pos (by rw [iI_le (by omega) (by omega) (by omega) (by omega)]; omega)]
    | succ d ih =>
      intro k nf is hk hnf
      obtain ⟨nf, rfl⟩ : ∃ x, nf = x + 1 := ⟨nf - 1, by omega⟩
      rw [F_M_isWord_L24]
      cases is with
      | false => rw [if_neg (by decide), Bool.false_and]
      | true =>
        obtain ⟨e1, b0, b1⟩ := hb (g + k) (by omega)
        have e2 : gI m 83 (g + k) = iI (b (g + k)) := by
          rw [e1]
          unfold sb
          rw [if_pos (by have := hlet (g + k) (by omega) (by omega); omega)]
        rw [if_pos rfl, nI_iI, if_neg (by rw [iI_le (by omega) (by omega) (by omega) (by omega)]; omega), h11, iI_add, ckB_t (iI_inb (by omega) (by omega) (by omega)), lt_def, iI_idx (by omega) (by omega), iI_idx (by omega) (by omega), show ((g : Int) + (k : Int)).toNat = g + k by omega, Int.toNat_natCast, e2, ckB_t (iI_inb (by omega) (by omega) (by omega)), lt_def]
        by_cases hc : iI (b (g + k)) = txB tx k
        · rw [if_pos hc]
          dsimp only
          rw [lt_def, lt1, iI_add]
          refine (ih (k + 1) nf true (by omega) (by omega)).trans ?_
          congr 3
          rw [decide_eq_decide]
          constructor
          · intro q i hi hi2
            by_cases hik : i = k
            · rw [hik]; exact hc
            · exact q i hi (by omega)
          · intro q i hi hi2
            exact q i hi (by omega)
        · rw [if_neg hc]
          dsimp only
          rw [lt_def, lt1, iI_add]
          refine (ih (k + 1) nf false (by omega) (by omega)).trans ?_
          rw [Bool.false_and, decide_eq_false (fun q => hc (q k (by omega) (by omega))), Bool.and_false]
  unfold F_M_isWord
  rw [← hN, lt_def, h9, h11, iI_sub, nI_iI]
  by_cases hlen : e = g + tx.length
  · rw [if_pos (by congr 1; omega)]
    refine (up hlen tx.length 0 N true (by omega) (by omega)).trans ?_
    unfold wm
    congr 2
    rw [Bool.true_and, decide_eq_decide]
    exact ⟨fun q => ⟨hlen, fun i hi => q i hi (by omega)⟩, fun q i hi _ => q.2 i hi⟩
  · rw [if_neg (by rw [iI_eq (by omega) (by omega) (by omega) (by omega)]; omega)]
    obtain ⟨N', rfl⟩ : ∃ x, N = x + 1 := ⟨999999, by omega⟩
    dsimp only
    rw [F_M_isWord_L24, if_neg (by decide)]
    unfold wm
    rw [decide_eq_false (fun q => hlen q.1)]
theorem wrd_le127 {b : Nat → Int} {T q i : Nat} (h1 : q ≤ i) (h2 : i < wrd b T q) : b i ≤ 127 := by
  have := isW_e.1 (sc_in (p := isW) h1 h2).2
  omega
theorem Mpasses_ok {m : Mem} {b : Nat → Int} {T p : Nat} (h : RSc m b T p) {tx : String} (hl : tx.length ≤ 20) : ∃ m', F_M_passes tx m = some (wm b (blk b T p) (wrd b T (blk b T p)) tx, m') ∧ RSc m' b T (if wm b (blk b T p) (wrd b T (blk b T p)) tx = true then wrd b T (blk b T p) else blk b T p) ∧ gI m' 78 11 = iI (blk b T p) ∧ Fr [] [(78, 9), (78, 11)] m m' := by
  obtain ⟨m1, e1, r1, g1, f1⟩ := Mletters_ok h
  have e2 := MisWord_eq r1 g1 (sc_ge _ _ _ _) (fun i a c => wrd_le127 a c) hl
  unfold F_M_passes
  rw [bnd_some e1, bnd_some e2]
  by_cases hw : wm b (blk b T p) (wrd b T (blk b T p)) tx = true
  · rw [hw, if_pos rfl, if_pos rfl]
    exact ⟨m1, rfl, r1, g1, f1⟩
  · have hw2 : wm b (blk b T p) (wrd b T (blk b T p)) tx = false := by
      cases hq : wm b (blk b T p) (wrd b T (blk b T p)) tx
      · rfl
      · exact absurd hq hw
    rw [hw2, if_neg (by decide), if_neg (by decide), g1, lt_def]
    refine ⟨_, rfl, r1.set (sc_le _ _ h.2.2.2), ?_, Fr_sI rfl f1 (by simp)⟩
    rw [gI_sI, if_neg (fun q => absurd q.2 (by decide))]
    exact g1
theorem Msign_ok {m : Mem} {b : Nat → Int} {T p : Nat} (h : RSc m b T p) {c : Int} (c0 : 0 ≤ c) (c1 : c ≤ 127) : ∃ m', F_M_sign (iI c) m = some (decide (blk b T p < T ∧ b (blk b T p) = c), m') ∧ RSc m' b T (if blk b T p < T ∧ b (blk b T p) = c then blk b T p + 1 else blk b T p) ∧ gI m' 78 11 = iI (blk b T p) ∧ Fr [] [(78, 9), (78, 11)] m m' := by
  have h400 := h.1.1
  obtain ⟨m1, e1, r1, g1, f1⟩ := Mblanks_ok h
  unfold F_M_sign
  rw [bnd_some e1, bnd_some (MisAt_eq r1 c0 (Int.le_refl _) c1)]
  by_cases hq : blk b T p < T ∧ b (blk b T p) = c
  · rw [decide_eq_true hq, decide_eq_true (by omega), if_pos rfl, if_pos hq, r1.2.2.1, lt_def, lt1, iI_add, show ((blk b T p : Nat) : Int) + 1 = ((blk b T p + 1 : Nat) : Int) by omega]
    refine ⟨_, rfl, r1.set (by omega), ?_, Fr_sI rfl f1 (by simp)⟩
    rw [gI_sI, if_neg (fun q => absurd q.2 (by decide))]
    exact g1
  · rw [decide_eq_false hq, decide_eq_false (by omega), if_neg (by decide), if_neg hq]
    exact ⟨m1, rfl, r1, g1, f1⟩
theorem MisFig_ok {m : Mem} {b : Nat → Int} {T p : Nat} (h : RSc m b T p) : ∃ m', F_M_isFigure m = some (decide (blk b T p < T ∧ 48 ≤ b (blk b T p) ∧ b (blk b T p) ≤ 57), m') ∧ RSc m' b T (blk b T p) ∧ gI m' 78 11 = iI (blk b T p) ∧ Fr [] [(78, 9), (78, 11)] m m' := by
  obtain ⟨m1, e1, r1, g1, f1⟩ := Mblanks_ok h
  unfold F_M_isFigure
  rw [bnd_some e1, show (48 : Int32) = iI 48 from rfl, show (57 : Int32) = iI 57 from rfl, bnd_some (MisAt_eq r1 (by omega) (by omega) (by omega))]
  exact ⟨m1, rfl, r1, g1, f1⟩
theorem Mnumber_L {b : Nat → Int} {T q : Nat} (k : Int32 → Mem → Option (Int32 × Mem)) : ∀ (d p nf : Nat) (m : Mem), T - p = d → d < nf → RSc m b T p → gI m 78 11 = iI q → q ≤ p → dig b T p = dig b T q → (∀ i, q ≤ i → i < p → 48 ≤ b i ∧ b i ≤ 57) → ∃ m', F_M_number_L6 k nf (iI (nvl b q (min (p - q) 3))) m = k (iI (nvq b T q)) m' ∧ RSc m' b T (dig b T q) ∧ Fr [] [(78, 9)] m m' := by
  intro d
  induction d with
  | zero =>
    intro p nf m hd hnf h h11 hqp hdg hdi
    obtain ⟨nf, rfl⟩ : ∃ x, nf = x + 1 := ⟨nf - 1, by omega⟩
    have e : dig b T p = p := sc_T (by omega)
    refine ⟨m, ?_, by rw [← hdg, e]; exact h, Fr_rf⟩
    rw [F_M_number_L6, show (48 : Int32) = iI 48 from rfl, show (57 : Int32) = iI 57 from rfl, bnd_some (MisAt_eq h (by omega) (by omega) (by omega)), decide_eq_false (by omega), if_neg (by decide)]
    unfold nvq
    rw [← hdg, e]
  | succ d ih =>
    intro p nf m hd hnf h h11 hqp hdg hdi
    obtain ⟨nf, rfl⟩ : ∃ x, nf = x + 1 := ⟨nf - 1, by omega⟩
    have h400 := h.1.1
    rw [F_M_number_L6, show (48 : Int32) = iI 48 from rfl, show (57 : Int32) = iI 57 from rfl, bnd_some (MisAt_eq h (by omega) (by omega) (by omega))]
    by_cases hp : 48 ≤ b p ∧ b p ≤ 57
    · have hr := nvl_rng (b := b) (q := q) (k := min (p - q) 3) (by omega) (fun i hi => hdi (q + i) (by omega) (by omega))
      obtain ⟨m', e, r, f⟩ := ih (p + 1) nf (sI m 78 9 (iI (p + 1 : Nat))) (by omega) (by omega) (h.set (by omega)) (by rw [gI_sI, if_neg (fun q => absurd q.2 (by decide))]; exact h11) (by omega) (by rw [← hdg]; exact (sc_t (by omega) (isD_e.2 hp)).symm) (fun i a c => by
        by_cases hi : i = p
        · rw [hi]; exact hp
        · exact hdi i a (by omega))
      refine ⟨m', ?_, r, Fr_tr (Fr_sI rfl Fr_rf (by simp)) f (by simp) (by simp)⟩
      rw [decide_eq_true (by omega), if_pos rfl, lt_def, h.2.2.1, h11, iI_sub]
      by_cases h3 : 3 ≤ (p : Int) - q
      · rw [if_pos (by rw [lt3, iI_le (by omega) (by omega) (by omega) (by omega)]; exact h3)]
        dsimp only
        rw [h.2.2.1, lt_def, lt1, iI_add]
        rw [show min (p + 1 - q) 3 = min (p - q) 3 by omega] at e
        exact e
      · obtain ⟨e1, b0, b1⟩ := h.1.2 p (by omega)
        have e2 : gI m 83 p = iI (b p) := by
          rw [e1]
          unfold sb
          rw [if_pos (by omega)]
        rw [if_neg (by rw [lt3, iI_le (by omega) (by omega) (by omega) (by omega)]; exact h3), ckB_t (iI_inb (by omega) (by omega) (by omega)), lt_def, iI_idx (by omega) (by omega), Int.toNat_natCast, e2]
        dsimp only
        rw [h.2.2.1, lt_def, lt1, iI_add, show (10 : Int32) = iI 10 from rfl, iI_mul, iI_add, iI_sub]
        have e3 : min (p + 1 - q) 3 = min (p - q) 3 + 1 := by omega
        rw [e3, nvl_s, show q + min (p - q) 3 = p by omega, show 10 * nvl b q (min (p - q) 3) + (b p - 48) = 10 * nvl b q (min (p - q) 3) + b p - 48 by omega] at e
        exact e
    · have e : dig b T p = p := sc_f (fun w => hp (isD_e.1 w))
      refine ⟨m, ?_, by rw [← hdg, e]; exact h, Fr_rf⟩
      rw [decide_eq_false (by omega), if_neg (by decide)]
      unfold nvq
      rw [← hdg, e]
theorem Mnumber_ok {m : Mem} {b : Nat → Int} {T p : Nat} (h : RSc m b T p) {lo hi : Int} (l0 : 0 ≤ lo) (h1 : hi ≤ 1000) (lh : lo ≤ hi) : ∃ m', F_M_number (iI lo) (iI hi) m = some (if nok b T (blk b T p) lo hi = true then iI (nvq b T (blk b T p)) else iI (-1), m') ∧ RSc m' b T (dig b T (blk b T p)) ∧ gI m' 78 11 = iI (blk b T p) ∧ Fr [] [(78, 9), (78, 11)] m m' := by
  have h400 := h.1.1
  obtain ⟨N, hN⟩ : ∃ N : Nat, N = 1000000 := ⟨_, rfl⟩
  obtain ⟨m1, e1, r1, g1, f1⟩ := Mblanks_ok h
  have hdg := sc_ge isD b T (blk b T p)
  have hdl := sc_le isD b r1.2.2.2
  have hr := nvq_rng b T (blk b T p)
  unfold F_M_number
  rw [← hN, bnd_some e1, lt_def]
  obtain ⟨m2, e2, r2, f2⟩ := Mnumber_L (b := b) (T := T) (q := blk b T p) (fun (xq5 : Int32) (mq4 : Mem) => ((if (gI mq4 78 9) = (gI mq4 78 11) then (some ((-1 : Int32), mq4)) else (if (3 : Int32) < ((gI mq4 78 9) - (gI mq4 78 11)) then (some ((-1 : Int32), mq4)) else (if xq5 < iI lo then (some ((-1 : Int32), mq4)) else (if xq5 ≤ iI hi then (some (xq5, mq4)) else (some ((-1 : Int32), mq4)))))) : Option (Int32 × Mem))) (T - blk b T p) (blk b T p) N m1 rfl (by omega) r1 g1 (Nat.le_refl _) rfl (fun i a c => by omega)
  rw [Nat.sub_self, Nat.zero_min] at e2
  have g2 : gI m2 78 11 = iI (blk b T p) := by rw [f2.gI (by simp) (by simp)]; exact g1
  refine ⟨m2, ?_, r2, g2, Fr_tr f1 f2 (by simp) (by simp)⟩
  refine (show _ = _ from e2).trans ?_
  rw [r2.2.2.1, g2, iI_sub]
  have hdd : dig b T (blk b T p) = sc isD b T (blk b T p) := rfl
  by_cases q1 : dig b T (blk b T p) = blk b T p
  · rw [if_pos (by rw [q1]), if_neg (fun w => by have := (nok_e.1 w).1; omega)]
    rfl
  · rw [if_neg (by rw [iI_eq (by omega) (by omega) (by omega) (by omega)]; omega)]
    by_cases q2 : 3 < dig b T (blk b T p) - blk b T p
    · rw [if_pos (by rw [lt3, iI_lt (by omega) (by omega) (by omega) (by omega)]; omega), if_neg (fun w => by have := (nok_e.1 w).2.1; omega)]
      rfl
    · rw [if_neg (by rw [lt3, iI_lt (by omega) (by omega) (by omega) (by omega)]; omega)]
      by_cases q3 : nvq b T (blk b T p) < lo
      · rw [if_pos (by rw [iI_lt (by omega) (by omega) (by omega) (by omega)]; exact q3), if_neg (fun w => by have := (nok_e.1 w).2.2.1; omega)]
        rfl
      · rw [if_neg (by rw [iI_lt (by omega) (by omega) (by omega) (by omega)]; exact q3)]
        by_cases q4 : nvq b T (blk b T p) ≤ hi
        · rw [if_pos (by rw [iI_le (by omega) (by omega) (by omega) (by omega)]; exact q4), if_pos (nok_e.2 ⟨by omega, by omega, by omega, q4⟩)]
        · rw [if_neg (by rw [iI_le (by omega) (by omega) (by omega) (by omega)]; exact q4), if_neg (fun w => q4 (nok_e.1 w).2.2.2)]
          rfl
end SCAN
