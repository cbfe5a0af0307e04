section TOK
def kdB (x : Int) : Int := if 97 ≤ x ∧ x ≤ 122 then 0 else if 48 ≤ x ∧ x ≤ 57 then 1 else 2
/-- where the thing ends that begins at q -/
def tnd (b : Nat → Int) (T q : Nat) : Nat := if isW (b q) = true then wrd b T q else if isD (b q) = true then dig b T q else q + 1
theorem tnd_gt {b : Nat → Int} {T q : Nat} (h : q < T) : q < tnd b T q ∧ tnd b T q ≤ T := by
  unfold tnd
  by_cases h1 : isW (b q) = true
  · rw [if_pos h1]
    unfold wrd
    rw [sc_t h h1]
    exact ⟨sc_ge _ _ _ _, sc_le _ _ (by omega)⟩
  · rw [if_neg h1]
    by_cases h2 : isD (b q) = true
    · rw [if_pos h2]
      unfold dig
      rw [sc_t h h2]
      exact ⟨sc_ge _ _ _ _, sc_le _ _ (by omega)⟩
    · rw [if_neg h2]
      omega
/-- a text and its things: where they begin and end; the last one is the end itself -/
def TF (b : Nat → Int) (T K : Nat) (B E : Nat → Nat) : Prop := (T ≤ 400) ∧ (K ≤ T) ∧ (∀ k, k < T → 0 ≤ b k ∧ b k ≤ 255) ∧ (B 0 = blk b T 0) ∧ (B K = T) ∧ (E K = T) ∧ (∀ j, j < K → B j < T) ∧ (∀ j, j < K → b (B j) ≠ 32) ∧ (∀ j, j < K → E j = tnd b T (B j)) ∧ (∀ j, j < K → B (j + 1) = blk b T (E j))
theorem TF.t4 {b : Nat → Int} {T K : Nat} {B E : Nat → Nat} (h : TF b T K B E) : T ≤ 400 := h.1
theorem TF.kT {b : Nat → Int} {T K : Nat} {B E : Nat → Nat} (h : TF b T K B E) : K ≤ T := h.2.1
theorem TF.by0 {b : Nat → Int} {T K : Nat} {B E : Nat → Nat} (h : TF b T K B E) : ∀ k, k < T → 0 ≤ b k ∧ b k ≤ 255 := h.2.2.1
theorem TF.b0 {b : Nat → Int} {T K : Nat} {B E : Nat → Nat} (h : TF b T K B E) : B 0 = blk b T 0 := h.2.2.2.1
theorem TF.bK {b : Nat → Int} {T K : Nat} {B E : Nat → Nat} (h : TF b T K B E) : B K = T := h.2.2.2.2.1
theorem TF.eK {b : Nat → Int} {T K : Nat} {B E : Nat → Nat} (h : TF b T K B E) : E K = T := h.2.2.2.2.2.1
theorem TF.lt {b : Nat → Int} {T K : Nat} {B E : Nat → Nat} (h : TF b T K B E) : ∀ j, j < K → B j < T := h.2.2.2.2.2.2.1
theorem TF.nb {b : Nat → Int} {T K : Nat} {B E : Nat → Nat} (h : TF b T K B E) : ∀ j, j < K → b (B j) ≠ 32 := h.2.2.2.2.2.2.2.1
theorem TF.en {b : Nat → Int} {T K : Nat} {B E : Nat → Nat} (h : TF b T K B E) : ∀ j, j < K → E j = tnd b T (B j) := h.2.2.2.2.2.2.2.2.1
theorem TF.nx {b : Nat → Int} {T K : Nat} {B E : Nat → Nat} (h : TF b T K B E) : ∀ j, j < K → B (j + 1) = blk b T (E j) := h.2.2.2.2.2.2.2.2.2
theorem TF.mk {b : Nat → Int} {T K : Nat} {B E : Nat → Nat} (h : (T ≤ 400) ∧ (K ≤ T) ∧ (∀ k, k < T → 0 ≤ b k ∧ b k ≤ 255) ∧ (B 0 = blk b T 0) ∧ (B K = T) ∧ (E K = T) ∧ (∀ j, j < K → B j < T) ∧ (∀ j, j < K → b (B j) ≠ 32) ∧ (∀ j, j < K → E j = tnd b T (B j)) ∧ (∀ j, j < K → B (j + 1) = blk b T (E j))) : TF b T K B E := h
theorem TF.le {b : Nat → Int} {T K : Nat} {B E : Nat → Nat} (h : TF b T K B E) {j : Nat} (hj : j ≤ K) : B j ≤ T := by
  by_cases q : j < K
  · exact Nat.le_of_lt (h.lt j q)
  · rw [show j = K by omega, h.bK]; exact Nat.le_refl _
theorem TF.bl {b : Nat → Int} {T K : Nat} {B E : Nat → Nat} (h : TF b T K B E) {j : Nat} (hj : j ≤ K) : blk b T (B j) = B j := by
  by_cases q : j < K
  · exact sc_f (fun w => h.nb j q (isB_e.1 w))
  · rw [show j = K by omega, h.bK]; exact sc_T (Nat.le_refl _)
theorem TF.eK' {b : Nat → Int} {T K : Nat} {B E : Nat → Nat} (h : TF b T K B E) {j : Nat} (hj : j ≤ K) (q : ¬ B j < T) : j = K := by
  by_cases w : j < K
  · exact absurd (h.lt j w) q
  · omega
theorem TF.word {b : Nat → Int} {T K : Nat} {B E : Nat → Nat} (h : TF b T K B E) {j : Nat} (hj : j ≤ K) {tx : String} (hl : 0 < tx.length) (hw : wm b (B j) (wrd b T (B j)) tx = true) : j < K ∧ isW (b (B j)) = true ∧ E j = wrd b T (B j) := by
  have e : wrd b T (B j) = B j + tx.length := (of_decide_eq_true hw).1
  have h1 : B j < T := by
    by_cases q : B j < T
    · exact q
    · have : wrd b T (B j) = B j := sc_T (by omega)
      omega
  have h2 : isW (b (B j)) = true := by
    by_cases q : isW (b (B j)) = true
    · exact q
    · have : wrd b T (B j) = B j := sc_f q
      omega
  have h3 : j < K := by
    by_cases q : j < K
    · exact q
    · have : j = K := by omega
      rw [this, h.bK] at h1
      omega
  refine ⟨h3, h2, ?_⟩
  rw [h.en j h3]
  unfold tnd
  rw [if_pos h2]
theorem kdB_w {x : Int} : kdB x = 0 ↔ isW x = true := by
  rw [isW_e]
  unfold kdB
  (repeat' split) <;> constructor <;> intro q <;> omega
theorem kdB_d {x : Int} : kdB x = 1 ↔ isD x = true := by
  rw [isD_e]
  unfold kdB
  (repeat' split) <;> constructor <;> intro q <;> omega
theorem kdB_rng (x : Int) : 0 ≤ kdB x ∧ kdB x ≤ 2 := by unfold kdB; (repeat' split) <;> omega
theorem kindOf_eq {x : Int} (x0 : 0 ≤ x) (x1 : x ≤ 255) (m : Mem) : F_Tx_kindOf (iI x) m = some (iI (kdB x), m) := by
  unfold F_Tx_kindOf kdB
  rw [lt_def]
  by_cases h1 : x < 97
  · rw [if_pos (by rw [show (97 : Int32) = iI 97 from rfl, iI_lt (by omega) (by omega) (by omega) (by omega)]; exact h1), if_neg (show ¬ (97 ≤ x ∧ x ≤ 122) by omega)]
    dsimp only
    by_cases h2 : x < 48
    · rw [if_pos (by rw [show (48 : Int32) = iI 48 from rfl, iI_lt (by omega) (by omega) (by omega) (by omega)]; exact h2), if_neg (by omega)]
      rfl
    · rw [if_neg (by rw [show (48 : Int32) = iI 48 from rfl, iI_lt (by omega) (by omega) (by omega) (by omega)]; exact h2)]
      by_cases h3 : 57 < x
      · rw [if_pos (by rw [show (57 : Int32) = iI 57 from rfl, iI_lt (by omega) (by omega) (by omega) (by omega)]; exact h3), if_neg (by omega)]
        rfl
      · rw [if_neg (by rw [show (57 : Int32) = iI 57 from rfl, iI_lt (by omega) (by omega) (by omega) (by omega)]; exact h3), if_pos (by omega)]
        rfl
  · rw [if_neg (by rw [show (97 : Int32) = iI 97 from rfl, iI_lt (by omega) (by omega) (by omega) (by omega)]; exact h1)]
    by_cases h2 : 122 < x
    · rw [if_pos (by rw [show (122 : Int32) = iI 122 from rfl, iI_lt (by omega) (by omega) (by omega) (by omega)]; exact h2), if_neg (show ¬ (97 ≤ x ∧ x ≤ 122) by omega), if_neg (by omega)]
      dsimp only
      rw [if_neg (by rw [show (48 : Int32) = iI 48 from rfl, iI_lt (by omega) (by omega) (by omega) (by omega)]; omega), if_pos (by rw [show (57 : Int32) = iI 57 from rfl, iI_lt (by omega) (by omega) (by omega) (by omega)]; omega)]
      rfl
    · rw [if_neg (by rw [show (122 : Int32) = iI 122 from rfl, iI_lt (by omega) (by omega) (by omega) (by omega)]; exact h2), if_pos (show 97 ≤ x ∧ x ≤ 122 by omega)]
      rfl
/-- the things as the class has them -/
def TML (m : Mem) (b : Nat → Int) (T K : Nat) (B E : Nat → Nat) : Prop := (gI m 52 4 = iI (K + 1 : Nat)) ∧ (∀ k, k < T → gI m 53 k = iI (b k)) ∧ (∀ j, j < K → gI m 54 j = iI (kdB (b (B j)))) ∧ (gI m 54 K = iI 3) ∧ (∀ j, j ≤ K → gI m 55 j = iI (B j)) ∧ (∀ j, j ≤ K → gI m 56 j = iI (E j))
theorem TML.n {m : Mem} {b : Nat → Int} {T K : Nat} {B E : Nat → Nat} (h : TML m b T K B E) : gI m 52 4 = iI (K + 1 : Nat) := h.1
theorem TML.by1 {m : Mem} {b : Nat → Int} {T K : Nat} {B E : Nat → Nat} (h : TML m b T K B E) : ∀ k, k < T → gI m 53 k = iI (b k) := h.2.1
theorem TML.ki {m : Mem} {b : Nat → Int} {T K : Nat} {B E : Nat → Nat} (h : TML m b T K B E) : ∀ j, j < K → gI m 54 j = iI (kdB (b (B j))) := h.2.2.1
theorem TML.kK {m : Mem} {b : Nat → Int} {T K : Nat} {B E : Nat → Nat} (h : TML m b T K B E) : gI m 54 K = iI 3 := h.2.2.2.1
theorem TML.be {m : Mem} {b : Nat → Int} {T K : Nat} {B E : Nat → Nat} (h : TML m b T K B E) : ∀ j, j ≤ K → gI m 55 j = iI (B j) := h.2.2.2.2.1
theorem TML.ed {m : Mem} {b : Nat → Int} {T K : Nat} {B E : Nat → Nat} (h : TML m b T K B E) : ∀ j, j ≤ K → gI m 56 j = iI (E j) := h.2.2.2.2.2
theorem TML.mk {m : Mem} {b : Nat → Int} {T K : Nat} {B E : Nat → Nat} (h : (gI m 52 4 = iI (K + 1 : Nat)) ∧ (∀ k, k < T → gI m 53 k = iI (b k)) ∧ (∀ j, j < K → gI m 54 j = iI (kdB (b (B j)))) ∧ (gI m 54 K = iI 3) ∧ (∀ j, j ≤ K → gI m 55 j = iI (B j)) ∧ (∀ j, j ≤ K → gI m 56 j = iI (E j))) : TML m b T K B E := h
theorem TML.cg {m m' : Mem} {b : Nat → Int} {T K : Nat} {B E : Nat → Nat} (h : TML m b T K B E) (h4 : gI m' 52 4 = gI m 52 4) (e : ∀ o, 53 ≤ o → o ≤ 56 → ∀ j, gI m' o j = gI m o j) : TML m' b T K B E :=
  TML.mk ⟨h4.trans h.n, fun k hk => (e 53 (by omega) (by omega) k).trans (h.by1 k hk), fun j hj => (e 54 (by omega) (by omega) j).trans (h.ki j hj), (e 54 (by omega) (by omega) K).trans h.kK, fun j hj => (e 55 (by omega) (by omega) j).trans (h.be j hj), fun j hj => (e 56 (by omega) (by omega) j).trans (h.ed j hj)⟩
/-- nothing is wrong yet, and the k-th thing is next -/
def CTL (m : Mem) (b : Nat → Int) (T K : Nat) (B E : Nat → Nat) (k : Nat) : Prop := (TF b T K B E) ∧ (TML m b T K B E) ∧ (gI m 52 5 = iI k) ∧ (gI m 52 6 = iI (-1)) ∧ (k ≤ K)
theorem CTL.tf {m : Mem} {b : Nat → Int} {T K : Nat} {B E : Nat → Nat} {k : Nat} (h : CTL m b T K B E k) : TF b T K B E := h.1
theorem CTL.tm {m : Mem} {b : Nat → Int} {T K : Nat} {B E : Nat → Nat} {k : Nat} (h : CTL m b T K B E k) : TML m b T K B E := h.2.1
theorem CTL.at1 {m : Mem} {b : Nat → Int} {T K : Nat} {B E : Nat → Nat} {k : Nat} (h : CTL m b T K B E k) : gI m 52 5 = iI k := h.2.2.1
theorem CTL.wr {m : Mem} {b : Nat → Int} {T K : Nat} {B E : Nat → Nat} {k : Nat} (h : CTL m b T K B E k) : gI m 52 6 = iI (-1) := h.2.2.2.1
theorem CTL.kK {m : Mem} {b : Nat → Int} {T K : Nat} {B E : Nat → Nat} {k : Nat} (h : CTL m b T K B E k) : k ≤ K := h.2.2.2.2
theorem CTL.mk {m : Mem} {b : Nat → Int} {T K : Nat} {B E : Nat → Nat} {k : Nat} (h : (TF b T K B E) ∧ (TML m b T K B E) ∧ (gI m 52 5 = iI k) ∧ (gI m 52 6 = iI (-1)) ∧ (k ≤ K)) : CTL m b T K B E k := h
theorem CTL.cg {m m' : Mem} {b : Nat → Int} {T K : Nat} {B E : Nat → Nat} {k : Nat} (h : CTL m b T K B E k) (e0 : ∀ j, 4 ≤ j → j ≤ 6 → gI m' 52 j = gI m 52 j) (e : ∀ o, 53 ≤ o → o ≤ 56 → ∀ j, gI m' o j = gI m o j) : CTL m' b T K B E k :=
  CTL.mk ⟨h.tf, h.tm.cg (e0 4 (by omega) (by omega)) e, (e0 5 (by omega) (by omega)).trans h.at1, (e0 6 (by omega) (by omega)).trans h.wr, h.kK⟩
theorem CTL.nxt {m : Mem} {b : Nat → Int} {T K : Nat} {B E : Nat → Nat} {k : Nat} (h : CTL m b T K B E k) (hk : k < K) : CTL (sI m 52 5 (iI (k + 1 : Nat))) b T K B E (k + 1) := by
  refine CTL.mk ⟨h.tf, h.tm.cg ?_ (fun o a c j => ?_), by rw [gI_sI, if_pos ⟨rfl, rfl⟩], ?_, hk⟩
  · rw [gI_sI, if_neg (fun q => absurd q.2 (by decide))]
  · rw [gI_sI, if_neg (fun q => by have := q.1; omega)]
  · rw [gI_sI, if_neg (fun q => absurd q.2 (by decide))]; exact h.wr
/-- something is wrong, at f -/
def DDL (m : Mem) (f : Nat) : Prop := gI m 52 6 = iI f ∧ f ≤ 400
theorem isAtL_d {m : Mem} {f : Nat} (h : DDL m f) (c : Int32) : F_Tx_isAtL c m = some (false, m) := by
  unfold F_Tx_isAtL
  rw [h.1, if_neg (by have := h.2; rw [show (-1 : Int32) = iI (-1) from rfl, iI_eq (by omega) (by omega) (by omega) (by omega)]; omega)]
theorem setWrongL_d {m : Mem} {f : Nat} (h : DDL m f) : F_Tx_setWrongL m = some ((), m) := by
  unfold F_Tx_setWrongL
  rw [h.1, if_neg (by have := h.2; rw [show (-1 : Int32) = iI (-1) from rfl, iI_eq (by omega) (by omega) (by omega) (by omega)]; omega)]
theorem takesWordL_d {m : Mem} {f : Nat} (h : DDL m f) (tx : String) : F_Tx_takesWordL tx m = some (false, m) := by
  unfold F_Tx_takesWordL
  rw [bnd_some (isAtL_d h _), if_neg (by decide)]
theorem takesSignL_d {m : Mem} {f : Nat} (h : DDL m f) (c : Int32) : F_Tx_takesSignL c m = some (false, m) := by
  unfold F_Tx_takesSignL
  rw [bnd_some (isAtL_d h _), if_neg (by decide)]
theorem mustTakeL_d {m : Mem} {f : Nat} (h : DDL m f) (tx : String) : F_Tx_mustTakeL tx m = some ((), m) := by
  unfold F_Tx_mustTakeL
  rw [bnd_some (takesWordL_d h tx), if_neg (by decide), bnd_some (setWrongL_d h)]
theorem numberL_d {m : Mem} {f : Nat} (h : DDL m f) (lo hi : Int32) : F_Tx_numberL lo hi m = some (lo, m) := by
  unfold F_Tx_numberL
  rw [bnd_some (isAtL_d h _), if_neg (by decide), bnd_some (setWrongL_d h)]
theorem isAtNL_d {m : Mem} {f : Nat} (h : DDL m f) : F_Tx_isAtNumberL m = some (false, m) := by
  unfold F_Tx_isAtNumberL
  rw [bnd_some (isAtL_d h _)]
theorem isAtL_eq {m : Mem} {b : Nat → Int} {T K : Nat} {B E : Nat → Nat} {k : Nat} (h : CTL m b T K B E k) {c : Int} (c0 : 0 ≤ c) (c3 : c ≤ 3) : F_Tx_isAtL (iI c) m = some (decide ((k < K ∧ kdB (b (B k)) = c) ∨ (k = K ∧ c = 3)), m) := by
  have t4 := h.tf.t4
  have kT := h.tf.kT
  have kK := h.kK
  have hr := kdB_rng (b (B k))
  unfold F_Tx_isAtL
  rw [h.wr, if_pos (show iI (-1) = (-1 : Int32) from rfl), h.at1, h.tm.n, if_neg (by rw [lt0, iI_lt (by omega) (by omega) (by omega) (by omega)]; omega), if_neg (by rw [iI_le (by omega) (by omega) (by omega) (by omega)]; omega), if_neg (by rw [lt400, iI_lt (by omega) (by omega) (by omega) (by omega)]; omega), ckB_t (iI_inb (by omega) (by omega) (by omega)), lt_def, iI_idx (by omega) (by omega), Int.toNat_natCast]
  by_cases hk : k < K
  · rw [h.tm.ki k hk]
    by_cases hc : kdB (b (B k)) = c
    · rw [if_pos (by rw [hc]), decide_eq_true (Or.inl ⟨hk, hc⟩)]
    · rw [if_neg (by rw [iI_eq (by omega) (by omega) (by omega) (by omega)]; exact hc), decide_eq_false (by omega)]
  · rw [show k = K by omega, h.tm.kK]
    by_cases hc : c = 3
    · rw [if_pos (by rw [hc]), decide_eq_true (Or.inr ⟨rfl, hc⟩)]
    · rw [if_neg (by rw [iI_eq (by omega) (by omega) (by omega) (by omega)]; omega), decide_eq_false (by omega)]
theorem setWrongL_eq {m : Mem} {b : Nat → Int} {T K : Nat} {B E : Nat → Nat} {k : Nat} (h : CTL m b T K B E k) : F_Tx_setWrongL m = some ((), sI m 52 6 (iI (B k))) := by
  have t4 := h.tf.t4
  have kT := h.tf.kT
  have kK := h.kK
  unfold F_Tx_setWrongL
  rw [h.wr, if_pos (show iI (-1) = (-1 : Int32) from rfl), h.at1, if_neg (by rw [lt0, iI_lt (by omega) (by omega) (by omega) (by omega)]; omega), if_neg (by rw [lt400, iI_lt (by omega) (by omega) (by omega) (by omega)]; omega), ckB_t (iI_inb (by omega) (by omega) (by omega)), lt_def, lt_def, iI_idx (by omega) (by omega), Int.toNat_natCast, h.tm.be k kK]
theorem ddL_set {m : Mem} {b : Nat → Int} {T K : Nat} {B E : Nat → Nat} {k : Nat} (h : CTL m b T K B E k) : DDL (sI m 52 6 (iI (B k))) (B k) := by
  refine ⟨by rw [gI_sI, if_pos ⟨rfl, rfl⟩], ?_⟩
  have := h.tf.le h.kK
  have := h.tf.t4
  omega
theorem byteAtL_eq {m : Mem} {i : Nat} (h : i < 400) : F_Tx_byteAtL (iI i) m = some (gI m 53 i, m) := by
  unfold F_Tx_byteAtL
  rw [if_neg (by rw [lt0, iI_lt (by omega) (by omega) (by omega) (by omega)]; omega), if_pos (by rw [lt400, iI_lt (by omega) (by omega) (by omega) (by omega)]; omega), ckB_t (iI_inb (by omega) (by omega) (by omega)), lt_def, iI_idx (by omega) (by omega), Int.toNat_natCast]
theorem takesWordL_eq {m : Mem} {b : Nat → Int} {T K : Nat} {B E : Nat → Nat} {k : Nat} (h : CTL m b T K B E k) {tx : String} (hl : tx.length ≤ 20) (hl0 : 0 < tx.length) : F_Tx_takesWordL tx m = some (wm b (B k) (wrd b T (B k)) tx, if wm b (B k) (wrd b T (B k)) tx = true then sI m 52 5 (iI (k + 1 : Nat)) else m) := by
  have t4 := h.tf.t4
  have kT := h.tf.kT
  have kK := h.kK
  obtain ⟨N, hN⟩ : ∃ N : Nat, N = 1000000 := ⟨_, rfl⟩
  unfold F_Tx_takesWordL
  rw [← hN, show (0 : Int32) = iI 0 from rfl, bnd_some (isAtL_eq h (by omega) (by omega))]
  by_cases hk : k < K ∧ kdB (b (B k)) = 0
  · obtain ⟨hk, hw⟩ := hk
    have hBT := h.tf.lt k hk
    have hW := kdB_w.1 hw
    have hE : E k = wrd b T (B k) := by
      rw [h.tf.en k hk]
      unfold tnd
      rw [if_pos hW]
    have hge : B k ≤ wrd b T (B k) := sc_ge _ _ _ _
    have hle : wrd b T (B k) ≤ T := sc_le _ _ (by omega)
    rw [decide_eq_true (Or.inl ⟨hk, hw⟩), if_pos rfl, h.at1, ckB_t (iI_inb (by omega) (by omega) (by omega)), lt_def, ckB_t (iI_inb (by omega) (by omega) (by omega)), lt_def, iI_idx (by omega) (by omega), Int.toNat_natCast, h.tm.be k kK, h.tm.ed k kK, hE, iI_sub, nI_iI]
    by_cases hlen : wrd b T (B k) = B k + tx.length
    · rw [if_pos (by congr 1; omega)]
      refine lt_go (fun k77 h77 => ?_)
      have up : ∀ (d i nf : Nat), i + d = tx.length → d < nf → (∀ j, j < i → iI (b (B k + j)) = txB tx j) → F_Tx_takesWordL_L38 tx k77 nf (iI i) m = some (wm b (B k) (wrd b T (B k)) tx, if wm b (B k) (wrd b T (B k)) tx = true then sI m 52 5 (iI (k + 1 : Nat)) else m) := by
        intro d
        induction d with
        | zero =>
          intro i nf hi hnf hq
          obtain ⟨nf, rfl⟩ : ∃ x, nf = x + 1 := ⟨nf - 1, by omega⟩
          have hwm : wm b (B k) (wrd b T (B k)) tx = true := decide_eq_true ⟨hlen, fun j hj => hq j (by omega)⟩
          rw [F_Tx_takesWordL_L38, nI_iI, if_pos (by rw [iI_le (by omega) (by omega) (by omega) (by omega)]; omega), hwm, if_pos rfl, h77]
          dsimp only
          rw [h.at1, lt_def, lt1, iI_add]
          rfl
        | succ d ih =>
          intro i nf hi hnf hq
          obtain ⟨nf, rfl⟩ : ∃ x, nf = x + 1 := ⟨nf - 1, by omega⟩
          rw [F_Tx_takesWordL_L38, nI_iI, if_neg (by rw [iI_le (by omega) (by omega) (by omega) (by omega)]; omega), h.at1, ckB_t (iI_inb (by omega) (by omega) (by omega)), lt_def, iI_idx (by omega) (by omega), Int.toNat_natCast, h.tm.be k kK, iI_add, show ((B k : Nat) : Int) + (i : Int) = ((B k + i : Nat) : Int) by omega, bnd_some (byteAtL_eq (by omega)), h.tm.by1 _ (by omega), ckB_t (iI_inb (by omega) (by omega) (by omega)), iI_idx (by omega) (by omega), Int.toNat_natCast]
          by_cases hc : iI (b (B k + i)) = txB tx i
          · rw [if_pos hc, lt_def, lt1, iI_add]
            refine ih (i + 1) nf (by omega) (by omega) (fun j hj => ?_)
            by_cases hji : j = i
            · rw [hji]; exact hc
            · exact hq j (by omega)
          · rw [if_neg hc]
            have hwm : wm b (B k) (wrd b T (B k)) tx = false := decide_eq_false (fun q => hc (q.2 i (by omega)))
            rw [hwm, if_neg (by decide)]
      exact up tx.length 0 N (by omega) (by omega) (fun j hj => by omega)
    · have hwm : wm b (B k) (wrd b T (B k)) tx = false := decide_eq_false (fun q => hlen q.1)
      rw [if_neg (by rw [iI_eq (by omega) (by omega) (by omega) (by omega)]; omega), hwm, if_neg (by decide)]
  · have hwm : wm b (B k) (wrd b T (B k)) tx = false := by
      cases hq : wm b (B k) (wrd b T (B k)) tx
      · rfl
      · obtain ⟨q1, q2, -⟩ := h.tf.word kK hl0 hq
        exact absurd ⟨q1, kdB_w.2 q2⟩ hk
    rw [decide_eq_false (by omega), if_neg (by decide), hwm, if_neg (by decide)]
theorem takesSignL_eq {m : Mem} {b : Nat → Int} {T K : Nat} {B E : Nat → Nat} {k : Nat} (h : CTL m b T K B E k) {c : Int} (hc : kdB c = 2) (c0 : 0 ≤ c) (c1 : c ≤ 127) : F_Tx_takesSignL (iI c) m = some (decide (B k < T ∧ b (B k) = c), if B k < T ∧ b (B k) = c then sI m 52 5 (iI (k + 1 : Nat)) else m) := by
  have t4 := h.tf.t4
  have kT := h.tf.kT
  have kK := h.kK
  unfold F_Tx_takesSignL
  rw [show (2 : Int32) = iI 2 from rfl, bnd_some (isAtL_eq h (by omega) (by omega))]
  by_cases hk : k < K ∧ kdB (b (B k)) = 2
  · obtain ⟨hk, hw⟩ := hk
    have hBT := h.tf.lt k hk
    have hby := h.tf.by0 (B k) hBT
    rw [decide_eq_true (Or.inl ⟨hk, hw⟩), if_pos rfl, h.at1, ckB_t (iI_inb (by omega) (by omega) (by omega)), lt_def, iI_idx (by omega) (by omega), Int.toNat_natCast, h.tm.be k kK, bnd_some (byteAtL_eq (by omega)), h.tm.by1 _ hBT]
    by_cases he : b (B k) = c
    · rw [if_pos (by rw [he]), lt_def, h.at1, lt1, iI_add, decide_eq_true ⟨hBT, he⟩, if_pos ⟨hBT, he⟩]
      rfl
    · rw [if_neg (by rw [iI_eq (by omega) (by omega) (by omega) (by omega)]; exact he), decide_eq_false (fun q => he q.2), if_neg (fun q => he q.2)]
  · have hq : ¬ (B k < T ∧ b (B k) = c) := by
      rintro ⟨q1, q2⟩
      refine hk ⟨?_, by rw [q2]; exact hc⟩
      by_cases q : k < K
      · exact q
      · have e : k = K := by omega
        rw [e, h.tf.bK] at q1
        omega
    rw [decide_eq_false (by omega), if_neg (by decide), decide_eq_false hq, if_neg hq]
theorem numberL_eq {m : Mem} {b : Nat → Int} {T K : Nat} {B E : Nat → Nat} {k : Nat} (h : CTL m b T K B E k) {lo hi : Int} (l0 : 0 ≤ lo) (lh : lo ≤ hi) (h1 : hi ≤ 1000) : F_Tx_numberL (iI lo) (iI hi) m = if nok b T (B k) lo hi = true then some (iI (nvq b T (B k)), sI m 52 5 (iI (k + 1 : Nat))) else some (iI lo, sI m 52 6 (iI (B k))) := by
  have t4 := h.tf.t4
  have kT := h.tf.kT
  have kK := h.kK
  obtain ⟨N, hN⟩ : ∃ N : Nat, N = 1000000 := ⟨_, rfl⟩
  have hsw := setWrongL_eq h
  unfold F_Tx_numberL
  rw [← hN, show (1 : Int32) = iI 1 from rfl, bnd_some (isAtL_eq h (by omega) (by omega))]
  by_cases hk : k < K ∧ kdB (b (B k)) = 1
  · obtain ⟨hk, hw⟩ := hk
    have hBT := h.tf.lt k hk
    have hD := kdB_d.1 hw
    have hnW : ¬ isW (b (B k)) = true := by
      rw [isW_e]
      have := isD_e.1 hD
      omega
    have hE : E k = dig b T (B k) := by
      rw [h.tf.en k hk]
      unfold tnd
      rw [if_neg hnW, if_pos hD]
    have hgt : B k < dig b T (B k) := by
      unfold dig
      rw [sc_t hBT hD]
      exact sc_ge _ _ _ _
    have hle : dig b T (B k) ≤ T := sc_le _ _ (by omega)
    have hdi : ∀ i, B k ≤ i → i < dig b T (B k) → 48 ≤ b i ∧ b i ≤ 57 := fun i a c => isD_e.1 (sc_in (p := isD) a c).2
    have hr := nvq_rng b T (B k)
    rw [decide_eq_true (Or.inl ⟨hk, hw⟩), if_pos rfl, h.at1, ckB_t (iI_inb (by omega) (by omega) (by omega)), lt_def, iI_idx (by omega) (by omega), Int.toNat_natCast, h.tm.be k kK]
    refine lt_go (fun k78 h78 => ?_)
    have up : ∀ (d i nf : Nat), i + d = min (dig b T (B k) - B k) 3 → d < nf → F_Tx_numberL_L27 k78 nf (iI (nvl b (B k) i)) (iI (B k + i : Nat)) m = k78 (iI (nvq b T (B k))) m := by
      intro d
      induction d with
      | zero =>
        intro i nf hi hnf
        obtain ⟨nf, rfl⟩ : ∃ x, nf = x + 1 := ⟨nf - 1, by omega⟩
        have e : i = min (dig b T (B k) - B k) 3 := by omega
        rw [F_Tx_numberL_L27, h.at1, ckB_t (iI_inb (by omega) (by omega) (by omega)), lt_def, iI_idx (by omega) (by omega), Int.toNat_natCast, h.tm.ed k kK, hE]
        by_cases q : dig b T (B k) ≤ B k + i
        · rw [if_pos (by rw [iI_le (by omega) (by omega) (by omega) (by omega)]; omega)]
          unfold nvq
          rw [← e]
        · rw [if_neg (by rw [iI_le (by omega) (by omega) (by omega) (by omega)]; omega), ckB_t (iI_inb (by omega) (by omega) (by omega)), lt_def, h.tm.be k kK, lt3, iI_add, if_pos (by rw [iI_le (by omega) (by omega) (by omega) (by omega)]; omega)]
          unfold nvq
          rw [← e]
      | succ d ih =>
        intro i nf hi hnf
        obtain ⟨nf, rfl⟩ : ∃ x, nf = x + 1 := ⟨nf - 1, by omega⟩
        have hdk := hdi (B k + i) (by omega) (by omega)
        rw [F_Tx_numberL_L27, h.at1, ckB_t (iI_inb (by omega) (by omega) (by omega)), lt_def, iI_idx (by omega) (by omega), Int.toNat_natCast, h.tm.ed k kK, hE, if_neg (by rw [iI_le (by omega) (by omega) (by omega) (by omega)]; omega), ckB_t (iI_inb (by omega) (by omega) (by omega)), lt_def, h.tm.be k kK, lt3, iI_add, if_neg (by rw [iI_le (by omega) (by omega) (by omega) (by omega)]; omega), bnd_some (byteAtL_eq (by omega)), h.tm.by1 _ (by omega), show (10 : Int32) = iI 10 from rfl, iI_mul, iI_add, show (48 : Int32) = iI 48 from rfl, iI_sub, lt_def, lt_def, lt1, iI_add]
        have e2 : nvl b (B k) i * 10 + b (B k + i) - 48 = nvl b (B k) (i + 1) := by rw [nvl_s]; omega
        rw [e2]
        exact ih (i + 1) nf (by omega) (by omega)
    refine (up (min (dig b T (B k) - B k) 3) 0 N (by omega) (by omega)).trans ?_
    rw [h78]
    dsimp only
    rw [h.at1, ckB_t (iI_inb (by omega) (by omega) (by omega)), lt_def, ckB_t (iI_inb (by omega) (by omega) (by omega)), lt_def, iI_idx (by omega) (by omega), Int.toNat_natCast, h.tm.ed k kK, h.tm.be k kK, hE, iI_sub]
    refine lt_go (fun k111 h111 => ?_)
    have e111 : k111 m = some (iI lo, sI m 52 6 (iI (B k))) := by
      rw [h111]
      dsimp only
      rw [bnd_some hsw]
    by_cases q2 : 3 < dig b T (B k) - B k
    · rw [if_pos (by rw [lt3, iI_lt (by omega) (by omega) (by omega) (by omega)]; omega), if_neg (fun w => by have := (nok_e.1 w).2.1; omega)]
      exact e111
    · rw [if_neg (by rw [lt3, iI_lt (by omega) (by omega) (by omega) (by omega)]; omega)]
      by_cases q3 : nvq b T (B k) < lo
      · rw [if_pos (by rw [iI_lt (by omega) (by omega) (by omega) (by omega)]; exact q3), if_neg (fun w => by have := (nok_e.1 w).2.2.1; omega)]
        exact e111
      · rw [if_neg (by rw [iI_lt (by omega) (by omega) (by omega) (by omega)]; exact q3)]
        by_cases q4 : nvq b T (B k) ≤ hi
        · rw [if_pos (by rw [iI_le (by omega) (by omega) (by omega) (by omega)]; exact q4), if_pos (nok_e.2 ⟨by omega, by omega, by omega, q4⟩), lt_def, iI_add]
          rfl
        · rw [if_neg (by rw [iI_le (by omega) (by omega) (by omega) (by omega)]; exact q4), if_neg (fun w => q4 (nok_e.1 w).2.2.2)]
          exact e111
  · have hno : ¬ nok b T (B k) lo hi = true := by
      intro w
      have hgt := (nok_e.1 w).1
      have hBT : B k < T := by
        by_cases q : B k < T
        · exact q
        · have : dig b T (B k) = B k := sc_T (by omega)
          omega
      have hD : isD (b (B k)) = true := by
        by_cases q : isD (b (B k)) = true
        · exact q
        · have : dig b T (B k) = B k := sc_f q
          omega
      refine hk ⟨?_, kdB_d.2 hD⟩
      by_cases q : k < K
      · exact q
      · have e : k = K := by omega
        rw [e, h.tf.bK] at hBT
        omega
    rw [decide_eq_false (by omega), if_neg (by decide), bnd_some hsw, if_neg hno]
theorem isAtNL_eq {m : Mem} {b : Nat → Int} {T K : Nat} {B E : Nat → Nat} {k : Nat} (h : CTL m b T K B E k) : F_Tx_isAtNumberL m = some (decide (k < K ∧ isD (b (B k)) = true), m) := by
  unfold F_Tx_isAtNumberL
  rw [show (1 : Int32) = iI 1 from rfl, bnd_some (isAtL_eq h (by omega) (by omega))]
  congr 2
  rw [decide_eq_decide, kdB_d]
  exact ⟨fun q => q.elim id (fun w => absurd w.2 (by decide)), Or.inl⟩
theorem mustTakeL_eq {m : Mem} {b : Nat → Int} {T K : Nat} {B E : Nat → Nat} {k : Nat} (h : CTL m b T K B E k) {tx : String} (hl : tx.length ≤ 20) (hl0 : 0 < tx.length) : F_Tx_mustTakeL tx m = some ((), if wm b (B k) (wrd b T (B k)) tx = true then sI m 52 5 (iI (k + 1 : Nat)) else sI m 52 6 (iI (B k))) := by
  unfold F_Tx_mustTakeL
  rw [bnd_some (takesWordL_eq h hl hl0)]
  by_cases hw : wm b (B k) (wrd b T (B k)) tx = true
  · rw [hw, if_pos rfl, if_pos rfl, if_pos rfl]
  · have hw2 : wm b (B k) (wrd b T (B k)) tx = false := by
      cases hq : wm b (B k) (wrd b T (B k)) tx
      · rfl
      · exact absurd hq hw
    rw [hw2, if_neg (by decide), if_neg (by decide), if_neg (by decide), bnd_some (setWrongL_eq h)]
/-- the things as the class has them -/
def TMG (m : Mem) (b : Nat → Int) (T K : Nat) (B E : Nat → Nat) : Prop := (gI m 46 4 = iI (K + 1 : Nat)) ∧ (∀ k, k < T → gI m 47 k = iI (b k)) ∧ (∀ j, j < K → gI m 48 j = iI (kdB (b (B j)))) ∧ (gI m 48 K = iI 3) ∧ (∀ j, j ≤ K → gI m 49 j = iI (B j)) ∧ (∀ j, j ≤ K → gI m 50 j = iI (E j))
theorem TMG.n {m : Mem} {b : Nat → Int} {T K : Nat} {B E : Nat → Nat} (h : TMG m b T K B E) : gI m 46 4 = iI (K + 1 : Nat) := h.1
theorem TMG.by1 {m : Mem} {b : Nat → Int} {T K : Nat} {B E : Nat → Nat} (h : TMG m b T K B E) : ∀ k, k < T → gI m 47 k = iI (b k) := h.2.1
theorem TMG.ki {m : Mem} {b : Nat → Int} {T K : Nat} {B E : Nat → Nat} (h : TMG m b T K B E) : ∀ j, j < K → gI m 48 j = iI (kdB (b (B j))) := h.2.2.1
theorem TMG.kK {m : Mem} {b : Nat → Int} {T K : Nat} {B E : Nat → Nat} (h : TMG m b T K B E) : gI m 48 K = iI 3 := h.2.2.2.1
theorem TMG.be {m : Mem} {b : Nat → Int} {T K : Nat} {B E : Nat → Nat} (h : TMG m b T K B E) : ∀ j, j ≤ K → gI m 49 j = iI (B j) := h.2.2.2.2.1
theorem TMG.ed {m : Mem} {b : Nat → Int} {T K : Nat} {B E : Nat → Nat} (h : TMG m b T K B E) : ∀ j, j ≤ K → gI m 50 j = iI (E j) := h.2.2.2.2.2
theorem TMG.mk {m : Mem} {b : Nat → Int} {T K : Nat} {B E : Nat → Nat} (h : (gI m 46 4 = iI (K + 1 : Nat)) ∧ (∀ k, k < T → gI m 47 k = iI (b k)) ∧ (∀ j, j < K → gI m 48 j = iI (kdB (b (B j)))) ∧ (gI m 48 K = iI 3) ∧ (∀ j, j ≤ K → gI m 49 j = iI (B j)) ∧ (∀ j, j ≤ K → gI m 50 j = iI (E j))) : TMG m b T K B E := h
theorem TMG.cg {m m' : Mem} {b : Nat → Int} {T K : Nat} {B E : Nat → Nat} (h : TMG m b T K B E) (h4 : gI m' 46 4 = gI m 46 4) (e : ∀ o, 47 ≤ o → o ≤ 50 → ∀ j, gI m' o j = gI m o j) : TMG m' b T K B E :=
  TMG.mk ⟨h4.trans h.n, fun k hk => (e 47 (by omega) (by omega) k).trans (h.by1 k hk), fun j hj => (e 48 (by omega) (by omega) j).trans (h.ki j hj), (e 48 (by omega) (by omega) K).trans h.kK, fun j hj => (e 49 (by omega) (by omega) j).trans (h.be j hj), fun j hj => (e 50 (by omega) (by omega) j).trans (h.ed j hj)⟩
/-- nothing is wrong yet, and the k-th thing is next -/
def CTG (m : Mem) (b : Nat → Int) (T K : Nat) (B E : Nat → Nat) (k : Nat) : Prop := (TF b T K B E) ∧ (TMG m b T K B E) ∧ (gI m 46 5 = iI k) ∧ (gI m 46 6 = iI (-1)) ∧ (k ≤ K)
theorem CTG.tf {m : Mem} {b : Nat → Int} {T K : Nat} {B E : Nat → Nat} {k : Nat} (h : CTG m b T K B E k) : TF b T K B E := h.1
theorem CTG.tm {m : Mem} {b : Nat → Int} {T K : Nat} {B E : Nat → Nat} {k : Nat} (h : CTG m b T K B E k) : TMG m b T K B E := h.2.1
theorem CTG.at1 {m : Mem} {b : Nat → Int} {T K : Nat} {B E : Nat → Nat} {k : Nat} (h : CTG m b T K B E k) : gI m 46 5 = iI k := h.2.2.1
theorem CTG.wr {m : Mem} {b : Nat → Int} {T K : Nat} {B E : Nat → Nat} {k : Nat} (h : CTG m b T K B E k) : gI m 46 6 = iI (-1) := h.2.2.2.1
theorem CTG.kK {m : Mem} {b : Nat → Int} {T K : Nat} {B E : Nat → Nat} {k : Nat} (h : CTG m b T K B E k) : k ≤ K := h.2.2.2.2
theorem CTG.mk {m : Mem} {b : Nat → Int} {T K : Nat} {B E : Nat → Nat} {k : Nat} (h : (TF b T K B E) ∧ (TMG m b T K B E) ∧ (gI m 46 5 = iI k) ∧ (gI m 46 6 = iI (-1)) ∧ (k ≤ K)) : CTG m b T K B E k := h
theorem CTG.cg {m m' : Mem} {b : Nat → Int} {T K : Nat} {B E : Nat → Nat} {k : Nat} (h : CTG m b T K B E k) (e0 : ∀ j, 4 ≤ j → j ≤ 6 → gI m' 46 j = gI m 46 j) (e : ∀ o, 47 ≤ o → o ≤ 50 → ∀ j, gI m' o j = gI m o j) : CTG m' b T K B E k :=
  CTG.mk ⟨h.tf, h.tm.cg (e0 4 (by omega) (by omega)) e, (e0 5 (by omega) (by omega)).trans h.at1, (e0 6 (by omega) (by omega)).trans h.wr, h.kK⟩
theorem CTG.nxt {m : Mem} {b : Nat → Int} {T K : Nat} {B E : Nat → Nat} {k : Nat} (h : CTG m b T K B E k) (hk : k < K) : CTG (sI m 46 5 (iI (k + 1 : Nat))) b T K B E (k + 1) := by
  refine CTG.mk ⟨h.tf, h.tm.cg ?_ (fun o a c j => ?_), by rw [gI_sI, if_pos ⟨rfl, rfl⟩], ?_, hk⟩
  · rw [gI_sI, if_neg (fun q => absurd q.2 (by decide))]
  · rw [gI_sI, if_neg (fun q => by have := q.1; omega)]
  · rw [gI_sI, if_neg (fun q => absurd q.2 (by decide))]; exact h.wr
/-- something is wrong, at f -/
def DDG (m : Mem) (f : Nat) : Prop := gI m 46 6 = iI f ∧ f ≤ 400
theorem isAtG_d {m : Mem} {f : Nat} (h : DDG m f) (c : Int32) : F_Tx_isAtG c m = some (false, m) := by
  unfold F_Tx_isAtG
  rw [h.1, if_neg (by have := h.2; rw [show (-1 : Int32) = iI (-1) from rfl, iI_eq (by omega) (by omega) (by omega) (by omega)]; omega)]
theorem setWrongG_d {m : Mem} {f : Nat} (h : DDG m f) : F_Tx_setWrongG m = some ((), m) := by
  unfold F_Tx_setWrongG
  rw [h.1, if_neg (by have := h.2; rw [show (-1 : Int32) = iI (-1) from rfl, iI_eq (by omega) (by omega) (by omega) (by omega)]; omega)]
theorem takesWordG_d {m : Mem} {f : Nat} (h : DDG m f) (tx : String) : F_Tx_takesWordG tx m = some (false, m) := by
  unfold F_Tx_takesWordG
  rw [bnd_some (isAtG_d h _), if_neg (by decide)]
theorem takesSignG_d {m : Mem} {f : Nat} (h : DDG m f) (c : Int32) : F_Tx_takesSignG c m = some (false, m) := by
  unfold F_Tx_takesSignG
  rw [bnd_some (isAtG_d h _), if_neg (by decide)]
theorem mustTakeG_d {m : Mem} {f : Nat} (h : DDG m f) (tx : String) : F_Tx_mustTakeG tx m = some ((), m) := by
  unfold F_Tx_mustTakeG
  rw [bnd_some (takesWordG_d h tx), if_neg (by decide), bnd_some (setWrongG_d h)]
theorem numberG_d {m : Mem} {f : Nat} (h : DDG m f) (lo hi : Int32) : F_Tx_numberG lo hi m = some (lo, m) := by
  unfold F_Tx_numberG
  rw [bnd_some (isAtG_d h _), if_neg (by decide), bnd_some (setWrongG_d h)]
theorem isAtNG_d {m : Mem} {f : Nat} (h : DDG m f) : F_Tx_isAtNumberG m = some (false, m) := by
  unfold F_Tx_isAtNumberG
  rw [bnd_some (isAtG_d h _)]
theorem isAtG_eq {m : Mem} {b : Nat → Int} {T K : Nat} {B E : Nat → Nat} {k : Nat} (h : CTG m b T K B E k) {c : Int} (c0 : 0 ≤ c) (c3 : c ≤ 3) : F_Tx_isAtG (iI c) m = some (decide ((k < K ∧ kdB (b (B k)) = c) ∨ (k = K ∧ c = 3)), m) := by
  have t4 := h.tf.t4
  have kT := h.tf.kT
  have kK := h.kK
  have hr := kdB_rng (b (B k))
  unfold F_Tx_isAtG
  rw [h.wr, if_pos (show iI (-1) = (-1 : Int32) from rfl), h.at1, h.tm.n, if_neg (by rw [lt0, iI_lt (by omega) (by omega) (by omega) (by omega)]; omega), if_neg (by rw [iI_le (by omega) (by omega) (by omega) (by omega)]; omega), if_neg (by rw [lt400, iI_lt (by omega) (by omega) (by omega) (by omega)]; omega), ckB_t (iI_inb (by omega) (by omega) (by omega)), lt_def, iI_idx (by omega) (by omega), Int.toNat_natCast]
  by_cases hk : k < K
  · rw [h.tm.ki k hk]
    by_cases hc : kdB (b (B k)) = c
    · rw [if_pos (by rw [hc]), decide_eq_true (Or.inl ⟨hk, hc⟩)]
    · rw [if_neg (by rw [iI_eq (by omega) (by omega) (by omega) (by omega)]; exact hc), decide_eq_false (by omega)]
  · rw [show k = K by omega, h.tm.kK]
    by_cases hc : c = 3
    · rw [if_pos (by rw [hc]), decide_eq_true (Or.inr ⟨rfl, hc⟩)]
    · rw [if_neg (by rw [iI_eq (by omega) (by omega) (by omega) (by omega)]; omega), decide_eq_false (by omega)]
theorem setWrongG_eq {m : Mem} {b : Nat → Int} {T K : Nat} {B E : Nat → Nat} {k : Nat} (h : CTG m b T K B E k) : F_Tx_setWrongG m = some ((), sI m 46 6 (iI (B k))) := by
  have t4 := h.tf.t4
  have kT := h.tf.kT
  have kK := h.kK
  unfold F_Tx_setWrongG
  rw [h.wr, if_pos (show iI (-1) = (-1 : Int32) from rfl), h.at1, if_neg (by rw [lt0, iI_lt (by omega) (by omega) (by omega) (by omega)]; omega), if_neg (by rw [lt400, iI_lt (by omega) (by omega) (by omega) (by omega)]; omega), ckB_t (iI_inb (by omega) (by omega) (by omega)), lt_def, lt_def, iI_idx (by omega) (by omega), Int.toNat_natCast, h.tm.be k kK]
theorem ddG_set {m : Mem} {b : Nat → Int} {T K : Nat} {B E : Nat → Nat} {k : Nat} (h : CTG m b T K B E k) : DDG (sI m 46 6 (iI (B k))) (B k) := by
  refine ⟨by rw [gI_sI, if_pos ⟨rfl, rfl⟩], ?_⟩
  have := h.tf.le h.kK
  have := h.tf.t4
  omega
theorem byteAtG_eq {m : Mem} {i : Nat} (h : i < 400) : F_Tx_byteAtG (iI i) m = some (gI m 47 i, m) := by
  unfold F_Tx_byteAtG
  rw [if_neg (by rw [lt0, iI_lt (by omega) (by omega) (by omega) (by omega)]; omega), if_pos (by rw [lt400, iI_lt (by omega) (by omega) (by omega) (by omega)]; omega), ckB_t (iI_inb (by omega) (by omega) (by omega)), lt_def, iI_idx (by omega) (by omega), Int.toNat_natCast]
theorem takesWordG_eq {m : Mem} {b : Nat → Int} {T K : Nat} {B E : Nat → Nat} {k : Nat} (h : CTG m b T K B E k) {tx : String} (hl : tx.length ≤ 20) (hl0 : 0 < tx.length) : F_Tx_takesWordG tx m = some (wm b (B k) (wrd b T (B k)) tx, if wm b (B k) (wrd b T (B k)) tx = true then sI m 46 5 (iI (k + 1 : Nat)) else m) := by
  have t4 := h.tf.t4
  have kT := h.tf.kT
  have kK := h.kK
  obtain ⟨N, hN⟩ : ∃ N : Nat, N = 1000000 := ⟨_, rfl⟩
  unfold F_Tx_takesWordG
  rw [← hN, show (0 : Int32) = iI 0 from rfl, bnd_some (isAtG_eq h (by omega) (by omega))]
  by_cases hk : k < K ∧ kdB (b (B k)) = 0
  · obtain ⟨hk, hw⟩ := hk
    have hBT := h.tf.lt k hk
    have hW := kdB_w.1 hw
    have hE : E k = wrd b T (B k) := by
      rw [h.tf.en k hk]
      unfold tnd
      rw [if_pos hW]
    have hge : B k ≤ wrd b T (B k) := sc_ge _ _ _ _
    have hle : wrd b T (B k) ≤ T := sc_le _ _ (by omega)
    rw [decide_eq_true (Or.inl ⟨hk, hw⟩), if_pos rfl, h.at1, ckB_t (iI_inb (by omega) (by omega) (by omega)), lt_def, ckB_t (iI_inb (by omega) (by omega) (by omega)), lt_def, iI_idx (by omega) (by omega), Int.toNat_natCast, h.tm.be k kK, h.tm.ed k kK, hE, iI_sub, nI_iI]
    by_cases hlen : wrd b T (B k) = B k + tx.length
    · rw [if_pos (by congr 1; omega)]
      refine lt_go (fun k77 h77 => ?_)
      have up : ∀ (d i nf : Nat), i + d = tx.length → d < nf → (∀ j, j < i → iI (b (B k + j)) = txB tx j) → F_Tx_takesWordG_L38 tx k77 nf (iI i) m = some (wm b (B k) (wrd b T (B k)) tx, if wm b (B k) (wrd b T (B k)) tx = true then sI m 46 5 (iI (k + 1 : Nat)) else m) := by
        intro d
        induction d with
        | zero =>
          intro i nf hi hnf hq
          obtain ⟨nf, rfl⟩ : ∃ x, nf = x + 1 := ⟨nf - 1, by omega⟩
          have hwm : wm b (B k) (wrd b T (B k)) tx = true := decide_eq_true ⟨hlen, fun j hj => hq j (by omega)⟩
          rw [F_Tx_takesWordG_L38, nI_iI, if_pos (by rw [iI_le (by omega) (by omega) (by omega) (by omega)]; omega), hwm, if_pos rfl, h77]
          dsimp only
          rw [h.at1, lt_def, lt1, iI_add]
          rfl
        | succ d ih =>
          intro i nf hi hnf hq
          obtain ⟨nf, rfl⟩ : ∃ x, nf = x + 1 := ⟨nf - 1, by omega⟩
          rw [F_Tx_takesWordG_L38, nI_iI, if_neg (by rw [iI_le (by omega) (by omega) (by omega) (by omega)]; omega), h.at1, ckB_t (iI_inb (by omega) (by omega) (by omega)), lt_def, iI_idx (by omega) (by omega), Int.toNat_natCast, h.tm.be k kK, iI_add, show ((B k : Nat) : Int) + (i : Int) = ((B k + i : Nat) : Int) by omega, bnd_some (byteAtG_eq (by omega)), h.tm.by1 _ (by omega), ckB_t (iI_inb (by omega) (by omega) (by omega)), iI_idx (by omega) (by omega), Int.toNat_natCast]
          by_cases hc : iI (b (B k + i)) = txB tx i
          · rw [if_pos hc, lt_def, lt1, iI_add]
            refine ih (i + 1) nf (by omega) (by omega) (fun j hj => ?_)
            by_cases hji : j = i
            · rw [hji]; exact hc
            · exact hq j (by omega)
          · rw [if_neg hc]
            have hwm : wm b (B k) (wrd b T (B k)) tx = false := decide_eq_false (fun q => hc (q.2 i (by omega)))
            rw [hwm, if_neg (by decide)]
      exact up tx.length 0 N (by omega) (by omega) (fun j hj => by omega)
    · have hwm : wm b (B k) (wrd b T (B k)) tx = false := decide_eq_false (fun q => hlen q.1)
      rw [if_neg (by rw [iI_eq (by omega) (by omega) (by omega) (by omega)]; omega), hwm, if_neg (by decide)]
  · have hwm : wm b (B k) (wrd b T (B k)) tx = false := by
      cases hq : wm b (B k) (wrd b T (B k)) tx
      · rfl
      · obtain ⟨q1, q2, -⟩ := h.tf.word kK hl0 hq
        exact absurd ⟨q1, kdB_w.2 q2⟩ hk
    rw [decide_eq_false (by omega), if_neg (by decide), hwm, if_neg (by decide)]
theorem takesSignG_eq {m : Mem} {b : Nat → Int} {T K : Nat} {B E : Nat → Nat} {k : Nat} (h : CTG m b T K B E k) {c : Int} (hc : kdB c = 2) (c0 : 0 ≤ c) (c1 : c ≤ 127) : F_Tx_takesSignG (iI c) m = some (decide (B k < T ∧ b (B k) = c), if B k < T ∧ b (B k) = c then sI m 46 5 (iI (k + 1 : Nat)) else m) := by
  have t4 := h.tf.t4
  have kT := h.tf.kT
  have kK := h.kK
  unfold F_Tx_takesSignG
  rw [show (2 : Int32) = iI 2 from rfl, bnd_some (isAtG_eq h (by omega) (by omega))]
  by_cases hk : k < K ∧ kdB (b (B k)) = 2
  · obtain ⟨hk, hw⟩ := hk
    have hBT := h.tf.lt k hk
    have hby := h.tf.by0 (B k) hBT
    rw [decide_eq_true (Or.inl ⟨hk, hw⟩), if_pos rfl, h.at1, ckB_t (iI_inb (by omega) (by omega) (by omega)), lt_def, iI_idx (by omega) (by omega), Int.toNat_natCast, h.tm.be k kK, bnd_some (byteAtG_eq (by omega)), h.tm.by1 _ hBT]
    by_cases he : b (B k) = c
    · rw [if_pos (by rw [he]), lt_def, h.at1, lt1, iI_add, decide_eq_true ⟨hBT, he⟩, if_pos ⟨hBT, he⟩]
      rfl
    · rw [if_neg (by rw [iI_eq (by omega) (by omega) (by omega) (by omega)]; exact he), decide_eq_false (fun q => he q.2), if_neg (fun q => he q.2)]
  · have hq : ¬ (B k < T ∧ b (B k) = c) := by
      rintro ⟨q1, q2⟩
      refine hk ⟨?_, by rw [q2]; exact hc⟩
      by_cases q : k < K
      · exact q
      · have e : k = K := by omega
        rw [e, h.tf.bK] at q1
        omega
    rw [decide_eq_false (by omega), if_neg (by decide), decide_eq_false hq, if_neg hq]
theorem numberG_eq {m : Mem} {b : Nat → Int} {T K : Nat} {B E : Nat → Nat} {k : Nat} (h : CTG m b T K B E k) {lo hi : Int} (l0 : 0 ≤ lo) (lh : lo ≤ hi) (h1 : hi ≤ 1000) : F_Tx_numberG (iI lo) (iI hi) m = if nok b T (B k) lo hi = true then some (iI (nvq b T (B k)), sI m 46 5 (iI (k + 1 : Nat))) else some (iI lo, sI m 46 6 (iI (B k))) := by
  have t4 := h.tf.t4
  have kT := h.tf.kT
  have kK := h.kK
  obtain ⟨N, hN⟩ : ∃ N : Nat, N = 1000000 := ⟨_, rfl⟩
  have hsw := setWrongG_eq h
  unfold F_Tx_numberG
  rw [← hN, show (1 : Int32) = iI 1 from rfl, bnd_some (isAtG_eq h (by omega) (by omega))]
  by_cases hk : k < K ∧ kdB (b (B k)) = 1
  · obtain ⟨hk, hw⟩ := hk
    have hBT := h.tf.lt k hk
    have hD := kdB_d.1 hw
    have hnW : ¬ isW (b (B k)) = true := by
      rw [isW_e]
      have := isD_e.1 hD
      omega
    have hE : E k = dig b T (B k) := by
      rw [h.tf.en k hk]
      unfold tnd
      rw [if_neg hnW, if_pos hD]
    have hgt : B k < dig b T (B k) := by
      unfold dig
      rw [sc_t hBT hD]
      exact sc_ge _ _ _ _
    have hle : dig b T (B k) ≤ T := sc_le _ _ (by omega)
    have hdi : ∀ i, B k ≤ i → i < dig b T (B k) → 48 ≤ b i ∧ b i ≤ 57 := fun i a c => isD_e.1 (sc_in (p := isD) a c).2
    have hr := nvq_rng b T (B k)
    rw [decide_eq_true (Or.inl ⟨hk, hw⟩), if_pos rfl, h.at1, ckB_t (iI_inb (by omega) (by omega) (by omega)), lt_def, iI_idx (by omega) (by omega), Int.toNat_natCast, h.tm.be k kK]
    refine lt_go (fun k78 h78 => ?_)
    have up : ∀ (d i nf : Nat), i + d = min (dig b T (B k) - B k) 3 → d < nf → F_Tx_numberG_L27 k78 nf (iI (nvl b (B k) i)) (iI (B k + i : Nat)) m = k78 (iI (nvq b T (B k))) m := by
      intro d
      induction d with
      | zero =>
        intro i nf hi hnf
        obtain ⟨nf, rfl⟩ : ∃ x, nf = x + 1 := ⟨nf - 1, by omega⟩
        have e : i = min (dig b T (B k) - B k) 3 := by omega
        rw [F_Tx_numberG_L27, h.at1, ckB_t (iI_inb (by omega) (by omega) (by omega)), lt_def, iI_idx (by omega) (by omega), Int.toNat_natCast, h.tm.ed k kK, hE]
        by_cases q : dig b T (B k) ≤ B k + i
        · rw [if_pos (by rw [iI_le (by omega) (by omega) (by omega) (by omega)]; omega)]
          unfold nvq
          rw [← e]
        · rw [if_neg (by rw [iI_le (by omega) (by omega) (by omega) (by omega)]; omega), ckB_t (iI_inb (by omega) (by omega) (by omega)), lt_def, h.tm.be k kK, lt3, iI_add, if_pos (by rw [iI_le (by omega) (by omega) (by omega) (by omega)]; omega)]
          unfold nvq
          rw [← e]
      | succ d ih =>
        intro i nf hi hnf
        obtain ⟨nf, rfl⟩ : ∃ x, nf = x + 1 := ⟨nf - 1, by omega⟩
        have hdk := hdi (B k + i) (by omega) (by omega)
        rw [F_Tx_numberG_L27, h.at1, ckB_t (iI_inb (by omega) (by omega) (by omega)), lt_def, iI_idx (by omega) (by omega), Int.toNat_natCast, h.tm.ed k kK, hE, if_neg (by rw [iI_le (by omega) (by omega) (by omega) (by omega)]; omega), ckB_t (iI_inb (by omega) (by omega) (by omega)), lt_def, h.tm.be k kK, lt3, iI_add, if_neg (by rw [iI_le (by omega) (by omega) (by omega) (by omega)]; omega), bnd_some (byteAtG_eq (by omega)), h.tm.by1 _ (by omega), show (10 : Int32) = iI 10 from rfl, iI_mul, iI_add, show (48 : Int32) = iI 48 from rfl, iI_sub, lt_def, lt_def, lt1, iI_add]
        have e2 : nvl b (B k) i * 10 + b (B k + i) - 48 = nvl b (B k) (i + 1) := by rw [nvl_s]; omega
        rw [e2]
        exact ih (i + 1) nf (by omega) (by omega)
    refine (up (min (dig b T (B k) - B k) 3) 0 N (by omega) (by omega)).trans ?_
    rw [h78]
    dsimp only
    rw [h.at1, ckB_t (iI_inb (by omega) (by omega) (by omega)), lt_def, ckB_t (iI_inb (by omega) (by omega) (by omega)), lt_def, iI_idx (by omega) (by omega), Int.toNat_natCast, h.tm.ed k kK, h.tm.be k kK, hE, iI_sub]
    refine lt_go (fun k111 h111 => ?_)
    have e111 : k111 m = some (iI lo, sI m 46 6 (iI (B k))) := by
      rw [h111]
      dsimp only
      rw [bnd_some hsw]
    by_cases q2 : 3 < dig b T (B k) - B k
    · rw [if_pos (by rw [lt3, iI_lt (by omega) (by omega) (by omega) (by omega)]; omega), if_neg (fun w => by have := (nok_e.1 w).2.1; omega)]
      exact e111
    · rw [if_neg (by rw [lt3, iI_lt (by omega) (by omega) (by omega) (by omega)]; omega)]
      by_cases q3 : nvq b T (B k) < lo
      · rw [if_pos (by rw [iI_lt (by omega) (by omega) (by omega) (by omega)]; exact q3), if_neg (fun w => by have := (nok_e.1 w).2.2.1; omega)]
        exact e111
      · rw [if_neg (by rw [iI_lt (by omega) (by omega) (by omega) (by omega)]; exact q3)]
        by_cases q4 : nvq b T (B k) ≤ hi
        · rw [if_pos (by rw [iI_le (by omega) (by omega) (by omega) (by omega)]; exact q4), if_pos (nok_e.2 ⟨by omega, by omega, by omega, q4⟩), lt_def, iI_add]
          rfl
        · rw [if_neg (by rw [iI_le (by omega) (by omega) (by omega) (by omega)]; exact q4), if_neg (fun w => q4 (nok_e.1 w).2.2.2)]
          exact e111
  · have hno : ¬ nok b T (B k) lo hi = true := by
      intro w
      have hgt := (nok_e.1 w).1
      have hBT : B k < T := by
        by_cases q : B k < T
        · exact q
        · have : dig b T (B k) = B k := sc_T (by omega)
          omega
      have hD : isD (b (B k)) = true := by
        by_cases q : isD (b (B k)) = true
        · exact q
        · have : dig b T (B k) = B k := sc_f q
          omega
      refine hk ⟨?_, kdB_d.2 hD⟩
      by_cases q : k < K
      · exact q
      · have e : k = K := by omega
        rw [e, h.tf.bK] at hBT
        omega
    rw [decide_eq_false (by omega), if_neg (by decide), bnd_some hsw, if_neg hno]
theorem isAtNG_eq {m : Mem} {b : Nat → Int} {T K : Nat} {B E : Nat → Nat} {k : Nat} (h : CTG m b T K B E k) : F_Tx_isAtNumberG m = some (decide (k < K ∧ isD (b (B k)) = true), m) := by
  unfold F_Tx_isAtNumberG
  rw [show (1 : Int32) = iI 1 from rfl, bnd_some (isAtG_eq h (by omega) (by omega))]
  congr 2
  rw [decide_eq_decide, kdB_d]
  exact ⟨fun q => q.elim id (fun w => absurd w.2 (by decide)), Or.inl⟩
theorem mustTakeG_eq {m : Mem} {b : Nat → Int} {T K : Nat} {B E : Nat → Nat} {k : Nat} (h : CTG m b T K B E k) {tx : String} (hl : tx.length ≤ 20) (hl0 : 0 < tx.length) : F_Tx_mustTakeG tx m = some ((), if wm b (B k) (wrd b T (B k)) tx = true then sI m 46 5 (iI (k + 1 : Nat)) else sI m 46 6 (iI (B k))) := by
  unfold F_Tx_mustTakeG
  rw [bnd_some (takesWordG_eq h hl hl0)]
  by_cases hw : wm b (B k) (wrd b T (B k)) tx = true
  · rw [hw, if_pos rfl, if_pos rfl, if_pos rfl]
  · have hw2 : wm b (B k) (wrd b T (B k)) tx = false := by
      cases hq : wm b (B k) (wrd b T (B k)) tx
      · rfl
      · exact absurd hq hw
    rw [hw2, if_neg (by decide), if_neg (by decide), if_neg (by decide), bnd_some (setWrongG_eq h)]
end TOK
