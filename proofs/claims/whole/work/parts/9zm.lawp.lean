section LAWP
/-- codes that leave one value of a kind, h places over the stack at most -/
def Ty (kn : Bool) (h : Nat) (cs : List Int) : Prop := ∀ (ts : List Bool) (rest : List Int), ts.length + h ≤ 60 → okT rest (kn :: ts) → okT (cs ++ rest) ts
theorem Ty_wk {kn : Bool} {h H : Nat} {cs : List Int} (t : Ty kn h cs) (hh : h ≤ H) : Ty kn H cs := fun ts rest hl hr => t ts rest (by omega) hr
theorem Ty_num {c : Int} (c0 : 0 ≤ c) (c1 : c < 1006) : Ty false 3 [c] := fun ts rest hl hr => ⟨by omega, Or.inl ⟨c0, c1, hr⟩⟩
theorem Ty_sky {c : Int} (hc : c = 1006 ∨ c = 1007) : Ty true 4 [c] := fun ts rest hl hr => ⟨by omega, Or.inr (Or.inl ⟨hc, hr⟩)⟩
theorem Ty_plus {a : List Int} {x : Int} (ha : Ty false 3 a) (x0 : 0 ≤ x) (x1 : x < 1006) : Ty false 3 (a ++ [x, 1105]) := by
  intro ts rest hl hr
  rw [List.append_assoc]
  refine ha ts _ hl ⟨by simp only [List.length_cons]; omega, Or.inl ⟨x0, x1, ?_⟩⟩
  exact ⟨by simp only [List.length_cons]; omega, Or.inr (Or.inr (Or.inr (Or.inr (Or.inr ⟨rfl, ts, rfl, hr⟩))))⟩
theorem Ty_cmp {a d : List Int} {c : Int} (ha : Ty false 3 a) (hd : Ty false 3 d) (hc : c = 1103 ∨ c = 1104) : Ty true 4 (a ++ (d ++ [c])) := by
  intro ts rest hl hr
  rw [List.append_assoc, List.append_assoc]
  refine ha ts _ (by omega) (hd (false :: ts) _ (by simp only [List.length_cons]; omega) ?_)
  exact ⟨by simp only [List.length_cons]; omega, Or.inr (Or.inr (Or.inr (Or.inr (Or.inl ⟨hc, ts, rfl, hr⟩))))⟩
theorem Ty_not {a : List Int} {h : Nat} (ha : Ty true h a) (hh : 4 ≤ h) : Ty true h (a ++ [1100]) := by
  intro ts rest hl hr
  rw [List.append_assoc]
  exact ha ts _ hl ⟨by simp only [List.length_cons]; omega, Or.inr (Or.inr (Or.inl ⟨rfl, ts, rfl, hr⟩))⟩
theorem Ty_bin {a d : List Int} {c : Int} {h h' H : Nat} (ha : Ty true h a) (hd : Ty true h' d) (hc : c = 1101 ∨ c = 1102) (h1 : h ≤ H) (h2 : h' + 1 ≤ H) (h3 : 3 ≤ H) : Ty true H (a ++ (d ++ [c])) := by
  intro ts rest hl hr
  rw [List.append_assoc, List.append_assoc]
  refine ha ts _ (by omega) (hd (true :: ts) _ (by simp only [List.length_cons]; omega) ?_)
  exact ⟨by simp only [List.length_cons]; omega, Or.inr (Or.inr (Or.inr (Or.inl ⟨hc, ts, rfl, hr⟩)))⟩
/-- the class: the k-th thing next, s codes kept -/
def CA (m : Mem) (b : Nat → Int) (T K : Nat) (B E : Nat → Nat) (k s : Nat) : Prop := CTL m b T K B E k ∧ gI m 57 1 = iI s
/-- the reference: at q, c bytes behind it at least, st steps -/
def RA (m : Mem) (b : Nat → Int) (T q c st dp : Nat) : Prop := (∃ p, c ≤ p ∧ blk b T p = q ∧ RSc m b T p) ∧ gI m 78 15 = iI st ∧ gI m 78 12 = iI dp
theorem CA.nxt {m : Mem} {b : Nat → Int} {T K : Nat} {B E : Nat → Nat} {k s : Nat} (h : CA m b T K B E k s) (hk : k < K) : CA (sI m 52 5 (iI (k + 1 : Nat))) b T K B E (k + 1) s := ⟨h.1.nxt hk, by rw [gI_sI, if_neg (fun q => absurd q.1 (by decide))]; exact h.2⟩
theorem RA.go {m m' : Mem} {b : Nat → Int} {T K : Nat} {B E : Nat → Nat} {k c st dp : Nat} (h : RA m b T (B k) c st dp) (tf : TF b T K B E) (hk : k < K) (hr : RSc m' b T (E k)) (f : Fr [] [(78, 9), (78, 11)] m m') : RA m' b T (B (k + 1)) (c + 1) st dp := by
  obtain ⟨⟨p, h1, h2, h3⟩, h4, h5⟩ := h
  have e1 : p ≤ B k := by rw [← h2]; exact sc_ge _ _ _ _
  have e2 := (tnd_gt (b := b) (tf.lt k hk)).1
  rw [← tf.en k hk] at e2
  exact ⟨⟨E k, by omega, (tf.nx k hk).symm, hr⟩, (f.gI (by simp) (by simp)).trans h4, (f.gI (by simp) (by simp)).trans h5⟩
theorem RA.stay {m m' : Mem} {b : Nat → Int} {T K : Nat} {B E : Nat → Nat} {k c st dp : Nat} (h : RA m b T (B k) c st dp) (tf : TF b T K B E) (hk : k ≤ K) (hr : RSc m' b T (B k)) (f : Fr [] [(78, 9), (78, 11)] m m') : RA m' b T (B k) c st dp := by
  obtain ⟨⟨p, h1, h2, h3⟩, h4, h5⟩ := h
  have e1 : p ≤ B k := by rw [← h2]; exact sc_ge _ _ _ _
  exact ⟨⟨B k, by omega, tf.bl hk, hr⟩, (f.gI (by simp) (by simp)).trans h4, (f.gI (by simp) (by simp)).trans h5⟩
theorem RA.c4 {m : Mem} {b : Nat → Int} {T q c st dp : Nat} (h : RA m b T q c st dp) : c ≤ 400 := by
  obtain ⟨⟨p, h1, h2, h3⟩, -⟩ := h
  have := h3.1.1
  have := h3.2.2.2
  omega
theorem Ladd_ok {m : Mem} {b : Nat → Int} {T K : Nat} {B E : Nat → Nat} {k s : Nat} (h : CA m b T K B E k s) (hs : s < 400) (v : Int) : ∃ m', F_Lw_add (iI v) m = some ((), m') ∧ CA m' b T K B E k (s + 1) ∧ gI m' 58 s = iI v ∧ ∀ j, j < s → gI m' 58 j = gI m 58 j := by
  refine ⟨sI (sI m 58 s (iI v)) 57 1 (iI (s + 1 : Nat)), ?_, ⟨h.1.cg (fun j _ _ => ?_) (fun o _ _ j => ?_), by rw [gI_sI, if_pos ⟨rfl, rfl⟩]⟩, ?_, fun j hj => ?_⟩
  · unfold F_Lw_add
    have e1 : gI (sI m 58 s (iI v)) 57 1 = iI s := by rw [gI_sI, if_neg (fun q => absurd q.1 (by decide))]; exact h.2
    rw [h.2, if_neg (by rw [lt0, iI_lt (by omega) (by omega) (by omega) (by omega)]; omega), if_neg (by rw [lt400, iI_le (by omega) (by omega) (by omega) (by omega)]; omega), ckB_t (iI_inb (by omega) (by omega) (by omega)), lt_def, iI_idx (by omega) (by omega), Int.toNat_natCast, e1, lt_def, lt1, iI_add]
    rfl
  · rw [gI_sI, if_neg (fun q => absurd q.1 (by decide)), gI_sI, if_neg (fun q => absurd q.1 (by decide))]
  · rw [gI_sI, if_neg (fun q => by have := q.1; omega), gI_sI, if_neg (fun q => by have := q.1; omega)]
  · rw [gI_sI, if_neg (fun q => absurd q.1 (by decide)), gI_sI, if_pos ⟨rfl, rfl⟩]
  · rw [gI_sI, if_neg (fun q => absurd q.1 (by decide)), gI_sI, if_neg (fun q => by have := q.2; omega)]
theorem Ladd_d {m : Mem} {f : Nat} (h : DDL m f) (v : Int32) : ∃ m', F_Lw_add v m = some ((), m') ∧ DDL m' f := by
  unfold F_Lw_add
  by_cases h1 : gI m 57 1 < 0
  · rw [if_pos h1]; exact ⟨m, rfl, h⟩
  · rw [if_neg h1]
    by_cases h2 : (400 : Int32) ≤ gI m 57 1
    · rw [if_pos h2]; exact ⟨m, rfl, h⟩
    · rw [if_neg h2]
      obtain ⟨z, hz, z1, z2⟩ := iI_ex (gI m 57 1)
      rw [hz] at h1 h2 ⊢
      rw [lt0, iI_lt (by omega) (by omega) (by omega) (by omega)] at h1
      rw [lt400, iI_le (by omega) (by omega) (by omega) (by omega)] at h2
      rw [ckB_t (iI_inb (by omega) (by omega) (by omega)), lt_def, lt_def]
      exact ⟨_, rfl, by rw [gI_sI, if_neg (fun q => absurd q.1 (by decide)), gI_sI, if_neg (fun q => absurd q.1 (by decide))]; exact h.1, h.2⟩
theorem Memit_ok {m : Mem} {b : Nat → Int} {T q c st dp : Nat} (h : RA m b T q c st dp) (hs : st < 400) (x y : Int32) : ∃ m', F_M_emits x y m = some ((), m') ∧ RA m' b T q c (st + 1) dp ∧ gI m' 79 (1172 + 2 * st) = x ∧ gI m' 79 (1172 + 2 * st + 1) = y ∧ (∀ j, j < 1172 + 2 * st → gI m' 79 j = gI m 79 j) ∧ gI m' 78 11 = gI m 78 11 := by
  obtain ⟨⟨p, h1, h2, h3⟩, h4, h5⟩ := h
  refine ⟨sI (sI (sI m 79 (1172 + 2 * st) x) 79 (1172 + 2 * st + 1) y) 78 15 (iI (st + 1 : Nat)), ?_, ⟨⟨p, h1, h2, h3.cg (fun j => ?_) ?_ ?_⟩, ?_, ?_⟩, ?_, ?_, fun j hj => ?_, ?_⟩
  · unfold F_M_emits
    have e1 : gI (sI m 79 (1172 + 2 * st) x) 78 15 = iI st := by rw [gI_sI, if_neg (fun q => absurd q.1 (by decide))]; exact h4
    have e2 : gI (sI (sI m 79 (1172 + 2 * st) x) 79 (1172 + 2 * st + 1) y) 78 15 = iI st := by rw [gI_sI, if_neg (fun q => absurd q.1 (by decide))]; exact e1
    rw [h4, show (1172 : Int32) = iI 1172 from rfl, show (2 : Int32) = iI 2 from rfl, iI_mul, iI_add, ckB_t (iI_inb (by omega) (by omega) (by omega)), lt_def, iI_idx (by omega) (by omega), show ((1172 : Int) + 2 * (st : Int)).toNat = 1172 + 2 * st by omega, e1, iI_mul, iI_add, lt_def, lt1, iI_add, ckB_t (iI_inb (by omega) (by omega) (by omega)), lt_def, iI_idx (by omega) (by omega), show ((1172 : Int) + 2 * (st : Int) + 1).toNat = 1172 + 2 * st + 1 by omega, e2, lt_def, iI_add]
    rfl
  · rw [gI_sI, if_neg (fun q => absurd q.1 (by decide)), gI_sI, if_neg (fun q => absurd q.1 (by decide)), gI_sI, if_neg (fun q => absurd q.1 (by decide))]
  · rw [gI_sI, if_neg (fun q => absurd q.2 (by decide)), gI_sI, if_neg (fun q => absurd q.1 (by decide)), gI_sI, if_neg (fun q => absurd q.1 (by decide))]
  · rw [gI_sI, if_neg (fun q => absurd q.2 (by decide)), gI_sI, if_neg (fun q => absurd q.1 (by decide)), gI_sI, if_neg (fun q => absurd q.1 (by decide))]
  · rw [gI_sI, if_pos ⟨rfl, rfl⟩]
  · rw [gI_sI, if_neg (fun q => absurd q.2 (by decide)), gI_sI, if_neg (fun q => absurd q.1 (by decide)), gI_sI, if_neg (fun q => absurd q.1 (by decide))]
    exact h5
  · rw [gI_sI, if_neg (fun q => absurd q.1 (by decide)), gI_sI, if_neg (fun q => by have := q.2; omega), gI_sI, if_pos ⟨rfl, rfl⟩]
  · rw [gI_sI, if_neg (fun q => absurd q.1 (by decide)), gI_sI, if_pos ⟨rfl, rfl⟩]
  · rw [gI_sI, if_neg (fun q => absurd q.1 (by decide)), gI_sI, if_neg (fun q => by have := q.2; omega), gI_sI, if_neg (fun q => by have := q.2; omega)]
  · rw [gI_sI, if_neg (fun q => absurd q.2 (by decide)), gI_sI, if_neg (fun q => absurd q.1 (by decide)), gI_sI, if_neg (fun q => absurd q.1 (by decide))]
theorem tW_t {m : Mem} {b : Nat → Int} {T K : Nat} {B E : Nat → Nat} {k : Nat} (h : CTL m b T K B E k) {tx : String} (hl : tx.length ≤ 20) (hl0 : 0 < tx.length) (hw : wm b (B k) (wrd b T (B k)) tx = true) : F_Tx_takesWordL tx m = some (true, sI m 52 5 (iI (k + 1 : Nat))) := by
  rw [takesWordL_eq h hl hl0, hw, if_pos rfl]
theorem tW_f {m : Mem} {b : Nat → Int} {T K : Nat} {B E : Nat → Nat} {k : Nat} (h : CTL m b T K B E k) {tx : String} (hl : tx.length ≤ 20) (hl0 : 0 < tx.length) (hw : wm b (B k) (wrd b T (B k)) tx = false) : F_Tx_takesWordL tx m = some (false, m) := by
  rw [takesWordL_eq h hl hl0, hw, if_neg (by decide)]
theorem wm_no {b : Nat → Int} {q : Nat} {tx : String} (hl0 : 0 < tx.length) : wm b q q tx = false := decide_eq_false (fun w => by have := w.1; omega)
theorem wm_b {b : Nat → Int} {q e : Nat} {tx : String} (h : ¬ wm b q e tx = true) : wm b q e tx = false := by
  cases hq : wm b q e tx
  · rfl
  · exact absurd hq h
def PC (kk : Mem → Option (Unit × Mem)) (zq : Bool) (m : Mem) : Option (Unit × Mem) := (if zq = true then (bnd (F_Tx_numberL (0 : Int32) (999 : Int32) m) fun xq59 mq57 => bnd (F_Lw_add xq59 mq57) fun _ mq60 => kk mq60) else (bnd (F_Tx_takesWordL ("session") m) fun zw0 mw0 => if zw0 = true then (bnd (F_Lw_add (1000 : Int32) mw0) fun _ my0 => kk my0) else (bnd (F_Tx_takesWordL ("day") mw0) fun zw1 mw1 => if zw1 = true then (bnd (F_Lw_add (1001 : Int32) mw1) fun _ my1 => kk my1) else (bnd (F_Tx_takesWordL ("innings") mw1) fun zw2 mw2 => if zw2 = true then (bnd (F_Lw_add (1002 : Int32) mw2) fun _ my2 => kk my2) else (bnd (F_Tx_takesWordL ("side") mw2) fun zw3 mw3 => if zw3 = true then (bnd (F_Lw_add (1003 : Int32) mw3) fun _ my3 => kk my3) else (bnd (F_Tx_takesWordL ("bat") mw3) fun zw4 mw4 => if zw4 = true then (bnd (F_Lw_add (1004 : Int32) mw4) fun _ my4 => kk my4) else (bnd (F_Tx_takesWordL ("bowl") mw4) fun zw5 mw5 => if zw5 = true then (bnd (F_Lw_add (1005 : Int32) mw5) fun _ my5 => kk my5) else (bnd (F_Tx_setWrongL mw5) fun _ mz => kk mz))))))))
theorem PC_bad {m : Mem} {b : Nat → Int} {T K : Nat} {B E : Nat → Nat} {k : Nat} (h : CTL m b T K B E k) (w0 : wm b (B k) (wrd b T (B k)) "session" = false) (w1 : wm b (B k) (wrd b T (B k)) "day" = false) (w2 : wm b (B k) (wrd b T (B k)) "innings" = false) (w3 : wm b (B k) (wrd b T (B k)) "side" = false) (w4 : wm b (B k) (wrd b T (B k)) "bat" = false) (w5 : wm b (B k) (wrd b T (B k)) "bowl" = false) (kk : Mem → Option (Unit × Mem)) : PC kk false m = kk (sI m 52 6 (iI (B k))) := by
  unfold PC
  rw [if_neg (by decide), bnd_some (tW_f h (by decide) (by decide) w0), if_neg (by decide), bnd_some (tW_f h (by decide) (by decide) w1), if_neg (by decide), bnd_some (tW_f h (by decide) (by decide) w2), if_neg (by decide), bnd_some (tW_f h (by decide) (by decide) w3), if_neg (by decide), bnd_some (tW_f h (by decide) (by decide) w4), if_neg (by decide), bnd_some (tW_f h (by decide) (by decide) w5), if_neg (by decide), bnd_some (setWrongL_eq h)]
theorem PC_d {m : Mem} {f : Nat} (h : DDL m f) (kk : Mem → Option (Unit × Mem)) : PC kk false m = kk m := by
  unfold PC
  rw [if_neg (by decide), bnd_some (takesWordL_d h _), if_neg (by decide), bnd_some (takesWordL_d h _), if_neg (by decide), bnd_some (takesWordL_d h _), if_neg (by decide), bnd_some (takesWordL_d h _), if_neg (by decide), bnd_some (takesWordL_d h _), if_neg (by decide), bnd_some (takesWordL_d h _), if_neg (by decide), bnd_some (setWrongL_d h)]
theorem part_ok {mC mR : Mem} {b : Nat → Int} {T K : Nat} {B E : Nat → Nat} {k s : Nat} {c st dp : Nat} (hC : CA mC b T K B E k s) (hR : RA mR b T (B k) c st dp) (hs : s + 3 ≤ c) (hst : st + 4 ≤ c) : ∃ (ok : Bool) (mC' mR' : Mem) (zq : Bool), F_Tx_isAtNumberL mC = some (zq, mC) ∧ (∀ kk, PC kk zq mC = kk mC') ∧ F_M_readPart mR = some (ok, mR') ∧ ((ok = true ∧ k < K ∧ ∃ x : Int, 0 ≤ x ∧ x < 1006 ∧ CA mC' b T K B E (k + 1) (s + 1) ∧ RA mR' b T (B (k + 1)) (c + 1) (st + 1) dp ∧ gI mC' 58 s = iI x ∧ (∀ j, j < s → gI mC' 58 j = gI mC 58 j) ∧ gI mR' 79 (1172 + 2 * st) = iI (ms1 x) ∧ gI mR' 79 (1172 + 2 * st + 1) = iI (ms2 x) ∧ ∀ j, j < 1172 + 2 * st → gI mR' 79 j = gI mR 79 j) ∨ (ok = false ∧ DDL mC' (B k) ∧ gI mR' 78 11 = iI (B k))) := by
  have c4 := hR.c4
  have tf := hC.1.tf
  have kK := hC.1.kK
  have hN := isAtNL_eq hC.1
  have hBT := tf.le kK
  have t4 := tf.t4
  obtain ⟨⟨p, p1, p2, p3⟩, p4, p5⟩ := id hR
  obtain ⟨m1, e1, r1, g1, f1⟩ := Mletters_ok p3
  rw [p2] at r1 g1
  by_cases hD : k < K ∧ isD (b (B k)) = true
  · obtain ⟨hk, hd⟩ := hD
    have hlt := tf.lt k hk
    have hnW : ¬ isW (b (B k)) = true := by
      rw [isW_e]
      have := isD_e.1 hd
      omega
    have hw : wrd b T (B k) = B k := sc_f hnW
    rw [hw] at r1
    have hE : E k = dig b T (B k) := by
      rw [tf.en k hk]
      unfold tnd
      rw [if_neg hnW, if_pos hd]
    rw [decide_eq_true ⟨hk, hd⟩] at hN
    obtain ⟨m2, e2, r2, g2, f2⟩ := Mnumber_ok r1 (lo := 0) (hi := 999) (by omega) (by omega) (by omega)
    rw [tf.bl kK] at e2 r2 g2
    have f12 : Fr [] [(78, 9), (78, 11)] mR m2 := Fr_tr f1 f2 (by simp) (by simp)
    have hrng := nvq_rng b T (B k)
    have hnum := numberL_eq hC.1 (lo := 0) (hi := 999) (by omega) (by omega) (by omega)
    by_cases hno : nok b T (B k) 0 999 = true
    · rw [if_pos hno] at e2 hnum
      have hR2 : RA m2 b T (B (k + 1)) (c + 1) st dp := hR.go tf hk (by rw [hE]; exact r2) f12
      obtain ⟨m3, e3, r3, g3, g4, g5, g6⟩ := Memit_ok hR2 (by omega) (iI 8) (iI (nvq b T (B k)))
      obtain ⟨m4, e4, h4, i4, j4⟩ := Ladd_ok (hC.nxt hk) (by omega) (nvq b T (B k))
      refine ⟨true, m4, m3, true, hN, fun kk => ?_, ?_, Or.inl ⟨rfl, hk, nvq b T (B k), hrng.1, by omega, h4, r3, i4, fun j hj => ?_, ?_, ?_, fun j hj => ?_⟩⟩
      · unfold PC
        rw [if_pos rfl, show (0 : Int32) = iI 0 from rfl, show (999 : Int32) = iI 999 from rfl, bnd_some hnum, bnd_some e4]
      · unfold F_M_readPart
        rw [bnd_some e1, lt_def, r1.2.2.1, g1, if_pos rfl, show (0 : Int32) = iI 0 from rfl, show (999 : Int32) = iI 999 from rfl, bnd_some e2, show (8 : Int32) = iI 8 from rfl, bnd_some e3]
        dsimp only
        rw [if_neg (by rw [iI_lt (by omega) (by omega) (by omega) (by omega)]; omega)]
      · rw [j4 j hj, gI_sI, if_neg (fun q => absurd q.1 (by decide))]
      · rw [g3]
        unfold ms1
        rw [if_pos (by omega)]
      · rw [g4]
        unfold ms2
        rw [if_pos (by omega)]
      · rw [g5 j hj, f12.gI (by simp) (by simp)]
    · rw [if_neg hno] at e2 hnum
      have hR2 : RA m2 b T (B (k + 1)) (c + 1) st dp := hR.go tf hk (by rw [hE]; exact r2) f12
      obtain ⟨m3, e3, r3, g3, g4, g5, g6⟩ := Memit_ok hR2 (by omega) (iI 8) (iI (-1))
      obtain ⟨m4, e4, h4⟩ := Ladd_d (ddL_set hC.1) (iI 0)
      refine ⟨false, m4, m3, true, hN, fun kk => ?_, ?_, Or.inr ⟨rfl, h4, g6.trans g2⟩⟩
      · unfold PC
        rw [if_pos rfl, show (0 : Int32) = iI 0 from rfl, show (999 : Int32) = iI 999 from rfl, bnd_some hnum, bnd_some e4]
      · unfold F_M_readPart
        rw [bnd_some e1, lt_def, r1.2.2.1, g1, if_pos rfl, show (0 : Int32) = iI 0 from rfl, show (999 : Int32) = iI 999 from rfl, bnd_some e2, show (8 : Int32) = iI 8 from rfl, bnd_some e3]
        dsimp only
        rw [if_pos (by decide)]
  · have hN' : F_Tx_isAtNumberL mC = some (false, mC) := by rw [hN, decide_eq_false hD]
    by_cases hw : wrd b T (B k) = B k
    · have nw : ∀ tx : String, 0 < tx.length → wm b (B k) (wrd b T (B k)) tx = false := fun tx htx => by rw [hw]; exact wm_no htx
      rw [hw] at r1
      have hdg : dig b T (B k) = B k := by
        by_cases q : B k < T
        · refine sc_f (fun w => hD ⟨?_, w⟩)
          by_cases q2 : k < K
          · exact q2
          · rw [show k = K by omega, tf.bK] at q
            omega
        · exact sc_T (by omega)
      have hno : ¬ nok b T (B k) 0 999 = true := fun w => by
        have := (nok_e.1 w).1
        omega
      obtain ⟨m2, e2, r2, g2, f2⟩ := Mnumber_ok r1 (lo := 0) (hi := 999) (by omega) (by omega) (by omega)
      rw [tf.bl kK] at e2 r2 g2
      rw [if_neg hno] at e2
      rw [hdg] at r2
      have hR2 : RA m2 b T (B k) c st dp := hR.stay tf kK r2 (Fr_tr f1 f2 (by simp) (by simp))
      obtain ⟨m3, e3, r3, g3, g4, g5, g6⟩ := Memit_ok hR2 (by omega) (iI 8) (iI (-1))
      refine ⟨false, sI mC 52 6 (iI (B k)), m3, false, hN', fun kk => PC_bad hC.1 (nw _ (by decide)) (nw _ (by decide)) (nw _ (by decide)) (nw _ (by decide)) (nw _ (by decide)) (nw _ (by decide)) kk, ?_, Or.inr ⟨rfl, ddL_set hC.1, g6.trans g2⟩⟩
      unfold F_M_readPart
      rw [bnd_some e1, lt_def, r1.2.2.1, g1, if_pos rfl, show (0 : Int32) = iI 0 from rfl, show (999 : Int32) = iI 999 from rfl, bnd_some e2, show (8 : Int32) = iI 8 from rfl, bnd_some e3]
      dsimp only
      rw [if_pos (by decide)]
    · have hge : B k ≤ wrd b T (B k) := sc_ge _ _ _ _
      have hle : wrd b T (B k) ≤ T := sc_le _ _ hBT
      have iw : ∀ tx : String, tx.length ≤ 20 → F_M_isWord tx m1 = some (wm b (B k) (wrd b T (B k)) tx, m1) := fun tx hl => MisWord_eq r1 g1 hge (fun i a d => wrd_le127 a d) hl
      have hif : ¬ gI m1 78 9 = gI m1 78 11 := by
        rw [r1.2.2.1, g1, iI_eq (by omega) (by omega) (by omega) (by omega)]
        omega
      by_cases w0 : wm b (B k) (wrd b T (B k)) "session" = true
      · obtain ⟨hk, hW, hE⟩ := tf.word kK (by decide) w0
        have hR2 : RA m1 b T (B (k + 1)) (c + 1) st dp := hR.go tf hk (by rw [hE]; exact r1) f1
        obtain ⟨m3, e3, r3, g3, g4, g5, g6⟩ := Memit_ok hR2 (by omega) (iI 0) (iI 0)
        obtain ⟨m4, e4, h4, i4, j4⟩ := Ladd_ok (hC.nxt hk) (by omega) 1000
        refine ⟨true, m4, m3, false, hN', fun kk => ?_, ?_, Or.inl ⟨rfl, hk, 1000, by omega, by omega, h4, r3, i4, fun j hj => ?_, g3, g4, fun j hj => ?_⟩⟩
        · unfold PC
          rw [if_neg (by decide), bnd_some (tW_t hC.1 (by decide) (by decide) w0), if_pos rfl, show (1000 : Int32) = iI 1000 from rfl, bnd_some e4]
        · unfold F_M_readPart
          rw [bnd_some e1, lt_def, if_neg hif, bnd_some (iw "session" (by decide)), lt_def, w0, if_pos rfl]
          dsimp only
          rw [show (0 : Int32) = iI 0 from rfl, bnd_some e3]
          rw [if_neg (by decide)]
        · rw [j4 j hj, gI_sI, if_neg (fun q => absurd q.1 (by decide))]
        · rw [g5 j hj, f1.gI (by simp) (by simp)]
      · have w0 := wm_b w0
        by_cases w1 : wm b (B k) (wrd b T (B k)) "day" = true
        · obtain ⟨hk, hW, hE⟩ := tf.word kK (by decide) w1
          have hR2 : RA m1 b T (B (k + 1)) (c + 1) st dp := hR.go tf hk (by rw [hE]; exact r1) f1
          obtain ⟨m3, e3, r3, g3, g4, g5, g6⟩ := Memit_ok hR2 (by omega) (iI 1) (iI 0)
          obtain ⟨m4, e4, h4, i4, j4⟩ := Ladd_ok (hC.nxt hk) (by omega) 1001
          refine ⟨true, m4, m3, false, hN', fun kk => ?_, ?_, Or.inl ⟨rfl, hk, 1001, by omega, by omega, h4, r3, i4, fun j hj => ?_, g3, g4, fun j hj => ?_⟩⟩
          · unfold PC
            rw [if_neg (by decide), bnd_some (tW_f hC.1 (by decide) (by decide) w0), if_neg (by decide), bnd_some (tW_t hC.1 (by decide) (by decide) w1), if_pos rfl, show (1001 : Int32) = iI 1001 from rfl, bnd_some e4]
          · unfold F_M_readPart
            rw [bnd_some e1, lt_def, if_neg hif, bnd_some (iw "session" (by decide)), lt_def, w0, if_neg (by decide), bnd_some (iw "day" (by decide)), w1, if_pos rfl]
            dsimp only
            rw [show (1 : Int32) = iI 1 from rfl, show (0 : Int32) = iI 0 from rfl, bnd_some e3]
            rw [if_neg (by decide)]
          · rw [j4 j hj, gI_sI, if_neg (fun q => absurd q.1 (by decide))]
          · rw [g5 j hj, f1.gI (by simp) (by simp)]
        · have w1 := wm_b w1
          by_cases w2 : wm b (B k) (wrd b T (B k)) "innings" = true
          · obtain ⟨hk, hW, hE⟩ := tf.word kK (by decide) w2
            have hR2 : RA m1 b T (B (k + 1)) (c + 1) st dp := hR.go tf hk (by rw [hE]; exact r1) f1
            obtain ⟨m3, e3, r3, g3, g4, g5, g6⟩ := Memit_ok hR2 (by omega) (iI 2) (iI 0)
            obtain ⟨m4, e4, h4, i4, j4⟩ := Ladd_ok (hC.nxt hk) (by omega) 1002
            refine ⟨true, m4, m3, false, hN', fun kk => ?_, ?_, Or.inl ⟨rfl, hk, 1002, by omega, by omega, h4, r3, i4, fun j hj => ?_, g3, g4, fun j hj => ?_⟩⟩
            · unfold PC
              rw [if_neg (by decide), bnd_some (tW_f hC.1 (by decide) (by decide) w0), if_neg (by decide), bnd_some (tW_f hC.1 (by decide) (by decide) w1), if_neg (by decide), bnd_some (tW_t hC.1 (by decide) (by decide) w2), if_pos rfl, show (1002 : Int32) = iI 1002 from rfl, bnd_some e4]
            · unfold F_M_readPart
              rw [bnd_some e1, lt_def, if_neg hif, bnd_some (iw "session" (by decide)), lt_def, w0, if_neg (by decide), bnd_some (iw "day" (by decide)), w1, if_neg (by decide), bnd_some (iw "innings" (by decide)), w2, if_pos rfl]
              dsimp only
              rw [show (2 : Int32) = iI 2 from rfl, show (0 : Int32) = iI 0 from rfl, bnd_some e3]
              rw [if_neg (by decide)]
            · rw [j4 j hj, gI_sI, if_neg (fun q => absurd q.1 (by decide))]
            · rw [g5 j hj, f1.gI (by simp) (by simp)]
          · have w2 := wm_b w2
            by_cases w3 : wm b (B k) (wrd b T (B k)) "side" = true
            · obtain ⟨hk, hW, hE⟩ := tf.word kK (by decide) w3
              have hR2 : RA m1 b T (B (k + 1)) (c + 1) st dp := hR.go tf hk (by rw [hE]; exact r1) f1
              obtain ⟨m3, e3, r3, g3, g4, g5, g6⟩ := Memit_ok hR2 (by omega) (iI 3) (iI 0)
              obtain ⟨m4, e4, h4, i4, j4⟩ := Ladd_ok (hC.nxt hk) (by omega) 1003
              refine ⟨true, m4, m3, false, hN', fun kk => ?_, ?_, Or.inl ⟨rfl, hk, 1003, by omega, by omega, h4, r3, i4, fun j hj => ?_, g3, g4, fun j hj => ?_⟩⟩
              · unfold PC
                rw [if_neg (by decide), bnd_some (tW_f hC.1 (by decide) (by decide) w0), if_neg (by decide), bnd_some (tW_f hC.1 (by decide) (by decide) w1), if_neg (by decide), bnd_some (tW_f hC.1 (by decide) (by decide) w2), if_neg (by decide), bnd_some (tW_t hC.1 (by decide) (by decide) w3), if_pos rfl, show (1003 : Int32) = iI 1003 from rfl, bnd_some e4]
              · unfold F_M_readPart
                rw [bnd_some e1, lt_def, if_neg hif, bnd_some (iw "session" (by decide)), lt_def, w0, if_neg (by decide), bnd_some (iw "day" (by decide)), w1, if_neg (by decide), bnd_some (iw "innings" (by decide)), w2, if_neg (by decide), bnd_some (iw "side" (by decide)), w3, if_pos rfl]
                dsimp only
                rw [show (3 : Int32) = iI 3 from rfl, show (0 : Int32) = iI 0 from rfl, bnd_some e3]
                rw [if_neg (by decide)]
              · rw [j4 j hj, gI_sI, if_neg (fun q => absurd q.1 (by decide))]
              · rw [g5 j hj, f1.gI (by simp) (by simp)]
            · have w3 := wm_b w3
              by_cases w4 : wm b (B k) (wrd b T (B k)) "bat" = true
              · obtain ⟨hk, hW, hE⟩ := tf.word kK (by decide) w4
                have hR2 : RA m1 b T (B (k + 1)) (c + 1) st dp := hR.go tf hk (by rw [hE]; exact r1) f1
                obtain ⟨m3, e3, r3, g3, g4, g5, g6⟩ := Memit_ok hR2 (by omega) (iI 4) (iI 0)
                obtain ⟨m4, e4, h4, i4, j4⟩ := Ladd_ok (hC.nxt hk) (by omega) 1004
                refine ⟨true, m4, m3, false, hN', fun kk => ?_, ?_, Or.inl ⟨rfl, hk, 1004, by omega, by omega, h4, r3, i4, fun j hj => ?_, g3, g4, fun j hj => ?_⟩⟩
                · unfold PC
                  rw [if_neg (by decide), bnd_some (tW_f hC.1 (by decide) (by decide) w0), if_neg (by decide), bnd_some (tW_f hC.1 (by decide) (by decide) w1), if_neg (by decide), bnd_some (tW_f hC.1 (by decide) (by decide) w2), if_neg (by decide), bnd_some (tW_f hC.1 (by decide) (by decide) w3), if_neg (by decide), bnd_some (tW_t hC.1 (by decide) (by decide) w4), if_pos rfl, show (1004 : Int32) = iI 1004 from rfl, bnd_some e4]
                · unfold F_M_readPart
                  rw [bnd_some e1, lt_def, if_neg hif, bnd_some (iw "session" (by decide)), lt_def, w0, if_neg (by decide), bnd_some (iw "day" (by decide)), w1, if_neg (by decide), bnd_some (iw "innings" (by decide)), w2, if_neg (by decide), bnd_some (iw "side" (by decide)), w3, if_neg (by decide), bnd_some (iw "bat" (by decide)), w4, if_pos rfl]
                  dsimp only
                  rw [show (4 : Int32) = iI 4 from rfl, show (0 : Int32) = iI 0 from rfl, bnd_some e3]
                  rw [if_neg (by decide)]
                · rw [j4 j hj, gI_sI, if_neg (fun q => absurd q.1 (by decide))]
                · rw [g5 j hj, f1.gI (by simp) (by simp)]
              · have w4 := wm_b w4
                by_cases w5 : wm b (B k) (wrd b T (B k)) "bowl" = true
                · obtain ⟨hk, hW, hE⟩ := tf.word kK (by decide) w5
                  have hR2 : RA m1 b T (B (k + 1)) (c + 1) st dp := hR.go tf hk (by rw [hE]; exact r1) f1
                  obtain ⟨m3, e3, r3, g3, g4, g5, g6⟩ := Memit_ok hR2 (by omega) (iI 5) (iI 0)
                  obtain ⟨m4, e4, h4, i4, j4⟩ := Ladd_ok (hC.nxt hk) (by omega) 1005
                  refine ⟨true, m4, m3, false, hN', fun kk => ?_, ?_, Or.inl ⟨rfl, hk, 1005, by omega, by omega, h4, r3, i4, fun j hj => ?_, g3, g4, fun j hj => ?_⟩⟩
                  · unfold PC
                    rw [if_neg (by decide), bnd_some (tW_f hC.1 (by decide) (by decide) w0), if_neg (by decide), bnd_some (tW_f hC.1 (by decide) (by decide) w1), if_neg (by decide), bnd_some (tW_f hC.1 (by decide) (by decide) w2), if_neg (by decide), bnd_some (tW_f hC.1 (by decide) (by decide) w3), if_neg (by decide), bnd_some (tW_f hC.1 (by decide) (by decide) w4), if_neg (by decide), bnd_some (tW_t hC.1 (by decide) (by decide) w5), if_pos rfl, show (1005 : Int32) = iI 1005 from rfl, bnd_some e4]
                  · unfold F_M_readPart
                    rw [bnd_some e1, lt_def, if_neg hif, bnd_some (iw "session" (by decide)), lt_def, w0, if_neg (by decide), bnd_some (iw "day" (by decide)), w1, if_neg (by decide), bnd_some (iw "innings" (by decide)), w2, if_neg (by decide), bnd_some (iw "side" (by decide)), w3, if_neg (by decide), bnd_some (iw "bat" (by decide)), w4, if_neg (by decide), bnd_some (iw "bowl" (by decide)), w5, if_pos rfl]
                    dsimp only
                    rw [show (5 : Int32) = iI 5 from rfl, show (0 : Int32) = iI 0 from rfl, bnd_some e3]
                    rw [if_neg (by decide)]
                  · rw [j4 j hj, gI_sI, if_neg (fun q => absurd q.1 (by decide))]
                  · rw [g5 j hj, f1.gI (by simp) (by simp)]
                · have w5 := wm_b w5
                  have hk : k < K := by
                    by_cases q : k < K
                    · exact q
                    · refine absurd (sc_T (p := isW) (b := b) ?_) hw
                      rw [show k = K by omega, tf.bK]
                      exact Nat.le_refl _
                  have hR2 : RA m1 b T (blk b T (wrd b T (B k))) c st dp := ⟨⟨wrd b T (B k), by have := sc_ge isB b T p; have hpp : sc isB b T p = B k := p2; omega, rfl, r1⟩, (f1.gI (by simp) (by simp)).trans p4, (f1.gI (by simp) (by simp)).trans p5⟩
                  obtain ⟨m3, e3, r3, g3, g4, g5, g6⟩ := Memit_ok hR2 (by omega) (iI (-1)) (iI 0)
                  refine ⟨false, sI mC 52 6 (iI (B k)), m3, false, hN', fun kk => PC_bad hC.1 w0 w1 w2 w3 w4 w5 kk, ?_, Or.inr ⟨rfl, ddL_set hC.1, g6.trans g1⟩⟩
                  unfold F_M_readPart
                  rw [bnd_some e1, lt_def, if_neg hif, bnd_some (iw "session" (by decide)), lt_def, w0, if_neg (by decide), bnd_some (iw "day" (by decide)), w1, if_neg (by decide), bnd_some (iw "innings" (by decide)), w2, if_neg (by decide), bnd_some (iw "side" (by decide)), w3, if_neg (by decide), bnd_some (iw "bat" (by decide)), w4, if_neg (by decide), bnd_some (iw "bowl" (by decide)), w5, if_neg (by decide)]
                  dsimp only
                  rw [show (-1 : Int32) = iI (-1) from rfl, show (0 : Int32) = iI 0 from rfl, bnd_some e3]
                  rw [if_pos (by decide)]
end LAWP
