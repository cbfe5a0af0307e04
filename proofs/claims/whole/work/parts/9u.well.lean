section WELL
/-- how much better it is for a side that won the toss to bat -/
def dfZ (w : Nat → Int32) (law : Option (List (Int × List Int))) (n mg wd s : Int) : Int := tvZ w law n mg wd s s - tvZ w law n mg wd s (1 - s)
def okW (d0 d1 : Int) (w : Nat → Int32) (i : Nat) : Bool := let d := if w (55 + 3 * i) = iI 0 then d0 else d1; decide (d = 0) || (decide (0 < d) == decide (w (55 + 3 * i + 1) = w (55 + 3 * i)))
def wlN (d0 d1 : Int) (w : Nat → Int32) : Nat → Nat
  | 0 => 0
  | k + 1 => wlN d0 d1 w k + (if okW d0 d1 w k = true then 1 else 0)
def sgI (d : Int) : Int := if d < 0 then -1 else if d = 0 then 0 else 1
theorem sgI_n {d : Int} (h : d < 0) : sgI d = -1 := by unfold sgI; rw [if_pos h]
theorem sgI_z {d : Int} (h : d = 0) : sgI d = 0 := by unfold sgI; rw [if_neg (by omega), if_pos h]
theorem sgI_p {d : Int} (h : 0 < d) : sgI d = 1 := by unfold sgI; rw [if_neg (by omega), if_neg (by omega)]
theorem lcI_eq {a b : Int} (a0 : 0 ≤ a) (a1 : a ≤ 52428800) (b0 : 0 ≤ b) (b1 : b ≤ 52428800) : lcI (iL a) (iL b) = iI (sgI (a - b)) := by
  unfold lcI
  by_cases h : a < b
  · rw [sgI_n (by omega), if_pos (by rw [iL_lt (by omega) (by omega) (by omega) (by omega)]; exact h)]
    rfl
  · rw [if_neg (by rw [iL_lt (by omega) (by omega) (by omega) (by omega)]; exact h)]
    by_cases h2 : a = b
    · rw [sgI_z (by omega), if_pos (by rw [h2])]
      rfl
    · rw [sgI_p (by omega), if_neg (by rw [iL_eq (by omega) (by omega) (by omega) (by omega)]; exact h2)]
      rfl
theorem Tbetter_ok {B : Nat} {law : Option (List (Int × List Int))} {n mg wd tx bc : Int} {t : Mt} {m : Mem} (h : IV B law n mg wd tx bc t m) (hB6 : B ≤ 900000) {s : Int} (s0 : 0 ≤ s) (s1 : s ≤ 1) : Ok (F_T_betterToBat (iI s) m) (fun v m' => v = iI (sgI (dfZ (gI m 79) law n mg wd s)) ∧ IV (B + 2) law n mg wd tx bc t m' ∧ gI m' 79 = gI m 79) := by
  have r := fun a b => tvZ_rng (w := gI m 79) (law := law) (n := n) (mg := mg) (wd := wd) (s := a) (f := b) h.gr.n9 h.gr.dw0 h.gr.dw9
  unfold F_T_betterToBat
  refine ok_bnd (ok_of (Ttoss_ok h (by omega) (s := s) (f := s) s0 s1 s0 s1) (fun v m1 hv => ?_))
  obtain ⟨rfl, i1, w1⟩ := hv
  rw [lt1, iI_sub]
  refine ok_bnd (ok_of (Ttoss_ok i1 (by omega) (s := s) (f := 1 - s) s0 s1 (by omega) (by omega)) (fun v m2 hv => ok_some ⟨?_, hv.2.1, hv.2.2.trans w1⟩))
  rw [hv.1, w1, lcI_eq (r _ _).1 (r _ _).2 (r _ _).1 (r _ _).2]
  rfl
theorem Twell_loop {m : Mem} {bc d0 d1 : Int} (hc : gI m 12 0 = iI bc) (hb : bc ≤ 60) (hbo : ∀ j : Nat, (j : Int) < 3 * bc → gI m 13 j = gI m 79 (55 + j)) : ∀ (d k nf : Nat), (k : Int) + d = bc → d < nf → F_T_well_L17 (iI (sgI d0)) (iI (sgI d1)) nf (iI (wlN d0 d1 (gI m 79) k : Nat)) (iI k) m = some (iI (wlN d0 d1 (gI m 79) bc.toNat : Nat), m) := by
  intro d
  induction d with
  | zero =>
    intro k nf hk hnf
    obtain ⟨nf, rfl⟩ : ∃ x, nf = x + 1 := ⟨nf - 1, by omega⟩
    rw [F_T_well_L17, hc, if_pos (by rw [iI_le (by omega) (by omega) (by omega) (by omega)]; omega), show bc.toNat = k by omega]
  | succ d ih =>
    intro k nf hk hnf
    obtain ⟨nf, rfl⟩ : ∃ x, nf = x + 1 := ⟨nf - 1, by omega⟩
    have h1 := ih (k + 1) nf (by omega) (by omega)
    simp only [wlN] at h1
    have e0 : F_Bk_cell (iI k) (0 : Int32) m = some (gI m 79 (55 + 3 * k), m) := by
      rw [show F_Bk_cell (iI k) (0 : Int32) m = _ from cellB_eq (i := k) (c := 0) (by omega) (by omega), hbo _ (by omega)]; rfl
    have e1 : F_Bk_cell (iI k) (1 : Int32) m = some (gI m 79 (55 + 3 * k + 1), m) := by
      rw [show F_Bk_cell (iI k) (1 : Int32) m = _ from cellB_eq (i := k) (c := 1) (by omega) (by omega), hbo _ (by omega)]; rfl
    rw [F_T_well_L17, hc, if_neg (by rw [iI_le (by omega) (by omega) (by omega) (by omega)]; omega), bnd_some e0]
    obtain ⟨dd, hdd⟩ : ∃ dd, dd = if gI m 79 (55 + 3 * k) = iI 0 then d0 else d1 := ⟨_, rfl⟩
    have hok : okW d0 d1 (gI m 79) k = (decide (dd = 0) || (decide (0 < dd) == decide (gI m 79 (55 + 3 * k + 1) = gI m 79 (55 + 3 * k)))) := by rw [hdd]; rfl
    rw [hok] at h1
    refine lt_go (fun k57 h57 => ?_)
    have hmid : k57 (iI (sgI dd)) m = some (iI (wlN d0 d1 (gI m 79) bc.toNat : Nat), m) := by
      rw [h57]
      dsimp only
      rw [bnd_some e1]
      refine lt_go (fun k82 h82 => ?_)
      have hz : ∀ b : Bool, b = decide (gI m 79 (55 + 3 * k + 1) = gI m 79 (55 + 3 * k)) → k82 b m = some (iI (wlN d0 d1 (gI m 79) bc.toNat : Nat), m) := by
        intro b hb2
        rw [← hb2] at h1
        rw [h82]
        dsimp only
        refine lt_go (fun k107 h107 => lt_go (fun k104 h104 => ?_))
        have yes : (decide (dd = 0) || (decide (0 < dd) == b)) = true → k104 m = some (iI (wlN d0 d1 (gI m 79) bc.toNat : Nat), m) := by
          intro q
          rw [if_pos q] at h1
          rw [h104]
          dsimp only
          rw [lt_def, h107]
          dsimp only
          rw [lt_def, lt1, iI_add, iI_add]
          exact h1
        have no : (decide (dd = 0) || (decide (0 < dd) == b)) = false → k107 (iI (wlN d0 d1 (gI m 79) k : Nat)) m = some (iI (wlN d0 d1 (gI m 79) bc.toNat : Nat), m) := by
          intro q
          rw [if_neg (by rw [q]; decide)] at h1
          rw [h107]
          dsimp only
          rw [lt_def, lt1, iI_add]
          exact h1
        by_cases hd0 : dd = 0
        · rw [sgI_z hd0, if_pos (show iI 0 = (0 : Int32) from rfl)]
          exact yes (by rw [decide_eq_true hd0]; rfl)
        · by_cases hp : 0 < dd
          · rw [sgI_p hp, if_neg (show ¬ iI 1 = (0 : Int32) by decide)]
            refine lt_go (fun k99 h99 => ?_)
            rw [if_neg (show ¬ iI 1 ≤ (0 : Int32) by decide), h99]
            dsimp only
            cases b
            · rw [if_neg (by decide)]
              exact no (by rw [decide_eq_false hd0, decide_eq_true hp]; rfl)
            · rw [if_pos rfl]
              exact yes (by rw [decide_eq_false hd0, decide_eq_true hp]; rfl)
          · rw [sgI_n (by omega), if_neg (show ¬ iI (-1) = (0 : Int32) by decide)]
            refine lt_go (fun k99 h99 => ?_)
            rw [if_pos (show iI (-1) ≤ (0 : Int32) by decide), h99]
            dsimp only
            cases b
            · rw [if_pos rfl]
              exact yes (by rw [decide_eq_false hd0, decide_eq_false hp]; rfl)
            · rw [if_neg (by decide)]
              exact no (by rw [decide_eq_false hd0, decide_eq_false hp]; rfl)
      by_cases hbt : gI m 79 (55 + 3 * k + 1) = gI m 79 (55 + 3 * k)
      · rw [if_pos hbt]
        exact hz true (decide_eq_true hbt).symm
      · rw [if_neg hbt]
        exact hz false (decide_eq_false hbt).symm
    by_cases h0 : gI m 79 (55 + 3 * k) = iI 0
    · rw [if_pos h0] at hdd
      rw [if_pos (show gI m 79 (55 + 3 * k) = 0 from h0)]
      rw [hdd] at hmid
      exact hmid
    · rw [if_neg h0] at hdd
      rw [if_neg (show ¬ gI m 79 (55 + 3 * k) = 0 from h0)]
      rw [hdd] at hmid
      exact hmid
theorem Mwell_loop {m : Mem} {bc d0 d1 : Int} (hc : gI m 79 5 = iI bc) (hb : bc ≤ 60) (hbor : ∀ j : Nat, (j : Int) < bc → ∃ z : Int, gI m 79 (55 + 3 * j) = iI z ∧ 0 ≤ z ∧ z ≤ 1) (g0 : gL m 89 0 = iL d0) (g1 : gL m 89 1 = iL d1) (r0 : -60000000 ≤ d0) (r01 : d0 ≤ 60000000) (r1 : -60000000 ≤ d1) (r11 : d1 ≤ 60000000) : ∀ (d k nf : Nat), (k : Int) + d = bc → d < nf → F_M_well_L41 nf (iI (wlN d0 d1 (gI m 79) k : Nat)) (iI k) m = some (iI (wlN d0 d1 (gI m 79) bc.toNat : Nat), m) := by
  intro d
  induction d with
  | zero =>
    intro k nf hk hnf
    obtain ⟨nf, rfl⟩ : ∃ x, nf = x + 1 := ⟨nf - 1, by omega⟩
    rw [F_M_well_L41, hc, if_pos (by rw [iI_le (by omega) (by omega) (by omega) (by omega)]; omega), show bc.toNat = k by omega]
  | succ d ih =>
    intro k nf hk hnf
    obtain ⟨nf, rfl⟩ : ∃ x, nf = x + 1 := ⟨nf - 1, by omega⟩
    have h1 := ih (k + 1) nf (by omega) (by omega)
    simp only [wlN] at h1
    have e0 : F_M_ofBook (iI k) (0 : Int32) m = some (gI m 79 (55 + 3 * k), m) := ofBook_eq (i := k) (c := 0) (by omega) (by omega)
    have e1 : F_M_ofBook (iI k) (1 : Int32) m = some (gI m 79 (55 + 3 * k + 1), m) := ofBook_eq (i := k) (c := 1) (by omega) (by omega)
    obtain ⟨z, hz, z0, z1⟩ := hbor k (by omega)
    obtain ⟨dd, hdd⟩ : ∃ dd, dd = if gI m 79 (55 + 3 * k) = iI 0 then d0 else d1 := ⟨_, rfl⟩
    have hdr : -60000000 ≤ dd ∧ dd ≤ 60000000 := by rw [hdd]; split <;> omega
    have hok : okW d0 d1 (gI m 79) k = (decide (dd = 0) || (decide (0 < dd) == decide (gI m 79 (55 + 3 * k + 1) = gI m 79 (55 + 3 * k)))) := by rw [hdd]; rfl
    rw [hok] at h1
    have hgl : gL m 89 z.toNat = iL dd := by
      rcases (show z = 0 ∨ z = 1 by omega) with rfl | rfl
      · rw [hdd, if_pos hz]; exact g0
      · rw [hdd, if_neg (by rw [hz]; decide)]; exact g1
    rw [F_M_well_L41, hc, if_neg (by rw [iI_le (by omega) (by omega) (by omega) (by omega)]; omega), bnd_some e0, hz, ckB_t (iI_inb (by omega) (by omega) (by omega)), lt_def, iI_idx (by omega) (by omega), hgl]
    refine lt_go (fun k109 h109 => lt_go (fun k104 h104 => ?_))
    have step : ∀ b : Bool, b = (decide (dd = 0) || (decide (0 < dd) == decide (gI m 79 (55 + 3 * k + 1) = gI m 79 (55 + 3 * k)))) → k109 b m = some (iI (wlN d0 d1 (gI m 79) bc.toNat : Nat), m) := by
      intro b hb2
      rw [← hb2] at h1
      rw [h109]
      dsimp only
      rw [lt_def, lt_def, lt1, iI_add, b2i_add]
      exact h1
    by_cases hd0 : dd = 0
    · rw [if_pos (show iL dd = (0 : Int64) by rw [hd0]; rfl), h104]
      exact step true (by rw [decide_eq_true hd0]; rfl)
    · rw [if_neg (show ¬ iL dd = (0 : Int64) by rw [show (0 : Int64) = iL 0 from rfl, iL_eq (by omega) (by omega) (by omega) (by omega)]; exact hd0)]
      refine lt_go (fun k81 h81 => ?_)
      have fin : ∀ q : Bool, q = decide (0 < dd) → k81 q m = some (iI (wlN d0 d1 (gI m 79) bc.toNat : Nat), m) := by
        intro q hq
        rw [h81]
        dsimp only
        rw [bnd_some e1, bnd_some e0]
        refine lt_go (fun k101 h101 => ?_)
        have f2 : ∀ r : Bool, r = decide (gI m 79 (55 + 3 * k + 1) = gI m 79 (55 + 3 * k)) → k101 r m = some (iI (wlN d0 d1 (gI m 79) bc.toNat : Nat), m) := by
          intro r hr
          rw [h101]
          dsimp only
          have hs := fun b hb => step b hb
          rw [← hq, ← hr, decide_eq_false hd0, Bool.false_or] at hs
          by_cases hqr : q = r
          · rw [if_pos (by rw [hqr]), h104]
            exact hs true (by rw [hqr]; simp)
          · rw [if_neg (by rw [b2i_inj]; exact hqr)]
            exact hs false (by cases q <;> cases r <;> simp_all)
        by_cases hbt : gI m 79 (55 + 3 * k + 1) = gI m 79 (55 + 3 * k)
        · rw [if_pos hbt]
          exact f2 true (decide_eq_true hbt).symm
        · rw [if_neg hbt]
          exact f2 false (decide_eq_false hbt).symm
      by_cases hp : 0 < dd
      · rw [if_neg (show ¬ iL dd ≤ (0 : Int64) by rw [show (0 : Int64) = iL 0 from rfl, iL_le (by omega) (by omega) (by omega) (by omega)]; omega)]
        exact fin true (decide_eq_true hp).symm
      · rw [if_pos (show iL dd ≤ (0 : Int64) by rw [show (0 : Int64) = iL 0 from rfl, iL_le (by omega) (by omega) (by omega) (by omega)]; omega)]
        exact fin false (decide_eq_false hp).symm
end WELL
