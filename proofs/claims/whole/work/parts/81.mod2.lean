section MOD2
theorem SameM.tr {m0 m m' : Mem} (h : SameM m0 m) (h2 : Fr [] [(78, 23), (78, 24)] m m') : SameM m0 m' := Fr_tr h h2 (by decide) (by decide)
theorem LV.fr {law : Option (List (Int × List Int))} {f p : Int} {m m' : Mem} (h : LV law f p m) (h2 : Fr [] [(78, 23), (78, 24)] m m') : LV law f p m' := by
  intro j a b
  rw [h2.gI (by decide) (by simp), show gI m' 79 = gI m 79 by funext i; exact h2.gI (by decide) (by simp)]
  exact h j a b
theorem LY.fr {P : OP} {m m' : Mem} {q : Int} {r : Nat} {L : Int} (h : LY P m q r L) (h2 : Fr [] [(78, 23), (78, 24)] m m') : LY P m' q r L := by
  intro j o l a b c d e g
  rw [h2.gI (by decide) (by simp), h2.gI (by decide) (by simp)]
  exact h j o l a b c d e g
theorem ok_ltk {α β : Type} {x : β} {f : β → Option (α × Mem)} {Q : α → Mem → Prop} (h : ∀ y, y = x → Ok (f y) Q) : Ok (lt x f) Q := h x rfl
theorem oo_eq (o : Int) (m : Mem) (o0 : 0 ≤ o) (o1 : o ≤ 10) {β : Type} (k : Int32 → Mem → Option (β × Mem)) : (if iI o = (10 : Int32) then k (0 : Int32) m else k (iI o) m) = k (iI (oo o)) m := by
  unfold oo
  by_cases h : o = 10
  · rw [if_pos (by rw [h]; rfl), if_pos h]
    rfl
  · rw [if_neg (by rw [lt10, iI_eq (by omega) (by omega) (by omega) (by omega)]; exact h), if_neg h]
theorem Mnext_eq {j : Int} {m : Mem} (h : 0 ≤ j) (h1 : j ≤ 3) : ∃ j', F_M_nextKind (iI j) m = some (iI j', m) ∧ mu j' = mu j + 1 ∧ 0 ≤ j' ∧ j' ≤ 5 ∧ (3 < j' ↔ 2 ≤ j) := by
  unfold F_M_nextKind
  rcases (show j = 0 ∨ j = 1 ∨ j = 2 ∨ j = 3 by omega) with rfl | rfl | rfl | rfl
  · exact ⟨1, rfl, rfl, by decide, by decide, by decide⟩
  · exact ⟨2, rfl, rfl, by decide, by decide, by decide⟩
  · exact ⟨4, rfl, rfl, by decide, by decide, by decide⟩
  · exact ⟨5, rfl, rfl, by decide, by decide, by decide⟩
theorem brings_ok {law : Option (List (Int × List Int))} {P : OP} {mg tx bc f dw : Int} {bl : Bool} {wd : Int} {m0 m : Mem} (hB : MB law P mg tx bc f dw bl wd m0) (h : SameM m0 m) {p j o l s L : Int} {r : Nat} {v : Int × Int} (hd : Bool) (hl : LV law f p m) (p0 : 0 ≤ p) (hr : P.n - (p + 1) = (r : Int)) (j0 : 0 ≤ j) (j5 : j ≤ 5) (o0 : 0 ≤ o) (o1 : o ≤ 10) (s0 : 0 ≤ s) (s3 : s < 4) (hy : 0 < r → LY P m (p + 1) r L) {more : Int} (l0 : -L ≤ l) (l1 : l + more ≤ L) (hmo : ru P p (mu j) s hd ≤ more) (hL : L ≤ 162) (hv : GW m v) : Ok (F_M_brings (iI p) (iI j) (iI o) (iI l) (iI s) hd m) (fun _ m' => GW m' (pad v (slt P (four r) (V P r) p (mu j) (oo o) l hd s)) ∧ SameM m0 m' ∧ Fr [] [(78, 23), (78, 24)] m m') := by
  have hn9 := hB.gr.n9
  have hwn : gI m 79 0 = iI P.n := (h.I (by decide) (by simp)).trans hB.gr.wn
  obtain ⟨eR, r0, r9⟩ := MruOf_eq hB h (s := s) hd hl j0 j5 s0 s3
  obtain ⟨eU, u0, u9⟩ := MouOf_eq hB h (s := s) hd hl j0 j5 s0 s3
  have ho := oo_rng o0 o1
  have hA := Mall_eq (q := p + 1) hwn hn9 (by omega) (by omega)
  have hr1 : (P.n - (p + 1)).toNat = r := by omega
  rw [hr1] at hA
  have hmi := mu_inn j0 j5
  suffices hh : Ok (F_M_brings (iI p) (iI j) (iI o) (iI l) (iI s) hd m) (fun _ m' => GW m' (pad v (slt P (four r) (V P r) p (mu j) (oo o) l hd s))) by
    obtain ⟨a, m', e1, e2⟩ := hh
    have hf := fr_M_brings _ _ _ _ _ _ _ _ _ e1
    exact ⟨a, m', e1, e2, h.tr hf, hf⟩
  unfold slt
  generalize hrr : ru P p (mu j) s hd = rr at *
  generalize huu : ou P p (mu j) s hd = uu at *
  obtain ⟨g1, g2⟩ := hv
  unfold F_M_brings
  rw [bnd_some eR, lt_def]
  refine ok_ltk (fun k hk => ?_)
  rw [oo_eq o m o0 o1 k, hk]
  dsimp only
  rw [bnd_some eU, lt_def, lt_def]
  simp only [iI_add, lt1]
  -- what is read of the layer behind
  have hcell : ∀ o' , 0 ≤ o' → o' < 10 → 0 < r → GW (sI (sI m 78 23 (iI v.1 + gI m 86 (cx (p + 1) j o' (l + rr)))) 78 24 (iI v.2 + gI m 87 (cx (p + 1) j o' (l + rr)))) (pad v (V P r (mu j) o' (l + rr))) := by
    intro o' a1 a2 a3
    obtain ⟨c1, c2⟩ := hy a3 j o' (l + rr) j0 j5 a1 (by omega) (by omega) (by omega)
    rw [c1, c2, iI_add, iI_add]
    exact ⟨rfl, rfl⟩
  have hlow : ∀ o' , 0 ≤ o' → o' < 10 → o' = oo o + uu → (3 < j → l + rr ≤ 0) → Ok (bnd (F_M_size m) fun xq49 mq47 => if iI (p + 1) = xq49 then some ((), mq47) else bnd (F_M_cell (iI (p + 1)) (iI j) (iI o') (iI (l + rr)) mq47) fun xq52 mq50 => ckB (inb xq52 42900) (lt (gI mq50 86 xq52.toNatClampNeg) fun xq54 => lt (sI mq50 78 23 (gI mq47 78 23 + xq54)) fun mq55 => bnd (F_M_cell (iI (p + 1)) (iI j) (iI o') (iI (l + rr)) mq55) fun xq58 mq56 => ckB (inb xq58 42900) (lt (gI mq56 87 xq58.toNatClampNeg) fun xq60 => lt (sI mq56 78 24 (gI mq55 78 24 + xq60)) fun mq61 => some ((), mq61)))) (fun _ m' => GW m' (pad v (bh (four r) (V P r) (mu j) (min 10 (oo o + uu)) (l + rr)))) := by
    intro o' a1 a2 a3 a4
    have hb : bh (four r) (V P r) (mu j) (min 10 (oo o + uu)) (l + rr) = V P r (mu j) o' (l + rr) := by
      rw [show min 10 (oo o + uu) = o' by omega]
      unfold bh
      by_cases q : inn (mu j) = 3
      · rw [if_pos q, if_neg (by have := a4 (by rw [← hmi]; exact q); omega), if_neg (by omega)]
      · rw [if_neg q, if_neg (by omega)]
    rw [hb]
    unfold F_M_size
    rw [bnd_e, hwn]
    by_cases hz : r = 0
    · refine ok_t (by rw [show p + 1 = P.n by omega]) (ok_some ?_)
      rw [hz]
      show GW m (v.1 + 0, v.2 + 0)
      rw [Int.add_zero, Int.add_zero]
      exact ⟨g1, g2⟩
    · refine ok_f (by rw [iI_eq (by omega) (by omega) (by omega) (by omega)]; omega) ?_
      have hc := fun m => cell_eq (m := m) (q := p + 1) (j := j) (o := o') (l := l + rr) (by omega) (by omega) j0 j5 a1 (by omega) (by omega) (by omega)
      have hx := cx_lt (q := p + 1) (j := j) (o := o') (l := l + rr) j0 j5 a1 (by omega) (by omega) (by omega)
      rw [bnd_some (hc m), ckB_t (iI_inb (by omega) (by omega) (by omega)), lt_def, lt_def, bnd_some (hc _), ckB_t (iI_inb (by omega) (by omega) (by omega)), lt_def, lt_def, iI_idx (by omega) (by omega), Int.toNat_natCast]
      refine ok_some ?_
      have := hcell o' a1 a2 (by omega)
      rw [← g1, ← g2] at this
      exact this
  have hthen : ∀ z : Int, z = l + rr → -162 ≤ z ∧ z ≤ 162 := by intro z q; omega
  obtain ⟨ht0, ht1⟩ := hthen _ rfl
  have hk68 : (3 < j → l + rr ≤ 0) → Ok (if (10 : Int32) ≤ iI (oo o + uu) then (if iI j ≤ (3 : Int32) then bnd (F_M_nextKind (iI j) m) fun xq14 mq12 => lt (fun (mq15 : Mem) => ((bnd (F_M_size mq15) fun xq18 mq16 => if xq18 ≤ iI (p + 1) then some ((), mq16) else bnd (F_M_nextKind (iI j) mq16) fun xq21 mq19 => bnd (F_M_cell (iI (p + 1)) xq21 (10 : Int32) (-iI (l + rr)) mq19) fun xq24 mq22 => ckB (inb xq24 42900) (lt (gI mq22 87 xq24.toNatClampNeg) fun xq26 => lt (sI mq22 78 23 (gI mq16 78 23 + xq26)) fun mq27 => bnd (F_M_nextKind (iI j) mq27) fun xq30 mq28 => bnd (F_M_cell (iI (p + 1)) xq30 (10 : Int32) (-iI (l + rr)) mq28) fun xq33 mq31 => ckB (inb xq33 42900) (lt (gI mq31 86 xq33.toNatClampNeg) fun xq35 => lt (sI mq31 78 24 (gI mq27 78 24 + xq35)) fun mq36 => some ((), mq36)))) : Option (Unit × Mem))) fun k204_15 => if xq14 ≤ (3 : Int32) then k204_15 mq12 else if 0 ≤ iI (l + rr) then k204_15 mq12 else bnd (F_M_all (iI (p + 1)) mq12) fun xq39 mq37 => lt (sI mq37 78 24 (gI mq12 78 24 + xq39)) fun mq40 => some ((), mq40) else lt (fun (xq42 : Int32) (mq41 : Mem) => ((lt (sI mq41 78 24 (gI m 78 24 + xq42)) fun mq43 => some ((), mq43)) : Option (Unit × Mem))) fun k165_42 => if 0 ≤ iI (l + rr) then k165_42 (0 : Int32) m else bnd (F_M_all (iI (p + 1)) m) fun xq46 mq44 => k165_42 xq46 mq44) else bnd (F_M_size m) fun xq49 mq47 => if iI (p + 1) = xq49 then some ((), mq47) else bnd (F_M_cell (iI (p + 1)) (iI j) (iI (oo o + uu)) (iI (l + rr)) mq47) fun xq52 mq50 => ckB (inb xq52 42900) (lt (gI mq50 86 xq52.toNatClampNeg) fun xq54 => lt (sI mq50 78 23 (gI mq47 78 23 + xq54)) fun mq55 => bnd (F_M_cell (iI (p + 1)) (iI j) (iI (oo o + uu)) (iI (l + rr)) mq55) fun xq58 mq56 => ckB (inb xq58 42900) (lt (gI mq56 87 xq58.toNatClampNeg) fun xq60 => lt (sI mq56 78 24 (gI mq55 78 24 + xq60)) fun mq61 => some ((), mq61)))) (fun _ m' => GW m' (pad v (bh (four r) (V P r) (mu j) (min 10 (oo o + uu)) (l + rr)))) := by
    intro hj
    by_cases h10 : 10 ≤ oo o + uu
    · refine ok_t (by rw [lt10, iI_le (by omega) (by omega) (by omega) (by omega)]; exact h10) ?_
      rw [show min 10 (oo o + uu) = 10 by omega]
      by_cases h3 : 3 < j
      · have hi : inn (mu j) = 3 := by rw [hmi]; exact h3
        have hbh : bh (four r) (V P r) (mu j) 10 (l + rr) = if l + rr = 0 then (0, 0) else (0, four r) := by
          unfold bh
          rw [if_pos hi, if_neg (by have := hj h3; omega), if_pos rfl]
        rw [hbh]
        refine ok_f (by rw [lt3, iI_le (by omega) (by omega) (by omega) (by omega)]; omega) (ok_lt ?_)
        by_cases hz : l + rr = 0
        · rw [if_pos hz]
          refine ok_t (by rw [lt0, iI_le (by omega) (by omega) (by omega) (by omega)]; omega) (ok_lt (ok_some ?_))
          rw [g2, lt0, iI_add]
          exact ⟨by show gI m 78 23 = iI (v.1 + 0); rw [Int.add_zero]; exact g1, rfl⟩
        · rw [if_neg hz]
          refine ok_f (by rw [lt0, iI_le (by omega) (by omega) (by omega) (by omega)]; have := hj h3; omega) (ok_bnd_e hA (ok_lt (ok_some ?_)))
          rw [g2, iI_add]
          exact ⟨by show gI m 78 23 = iI (v.1 + 0); rw [Int.add_zero]; exact g1, rfl⟩
      · have hi : ¬ inn (mu j) = 3 := by rw [hmi]; exact h3
        have hbh : bh (four r) (V P r) (mu j) 10 (l + rr) = nx (four r) (V P r) (mu j) (l + rr) := by
          unfold bh
          rw [if_neg hi, if_pos rfl]
        rw [hbh]
        refine ok_t (by rw [lt3, iI_le (by omega) (by omega) (by omega) (by omega)]; omega) ?_
        obtain ⟨j', n1, n2, n3, n4, n5⟩ := Mnext_eq (m := m) j0 (show j ≤ 3 by omega)
        have n1' : ∀ m, F_M_nextKind (iI j) m = some (iI j', m) := by
          intro m2
          obtain ⟨j2, q1, q2, q3, q4, -⟩ := Mnext_eq (m := m2) j0 (show j ≤ 3 by omega)
          have : j2 = j' := by
            have h5 : mu j2 = mu j' := by rw [q2, n2]
            unfold mu at h5
            split at h5 <;> split at h5 <;> omega
          rw [q1, this]
        have n6 : (inn (mu j + 1) = 3) = (3 < j') := by rw [← n2]; exact mu_inn n3 n4
        rw [bnd_some n1]
        refine ok_lt ?_
        have hk204 : ¬ (inn (mu j + 1) = 3 ∧ l + rr < 0) → Ok (bnd (F_M_size m) fun xq18 mq16 => if xq18 ≤ iI (p + 1) then some ((), mq16) else bnd (F_M_nextKind (iI j) mq16) fun xq21 mq19 => bnd (F_M_cell (iI (p + 1)) xq21 (10 : Int32) (-iI (l + rr)) mq19) fun xq24 mq22 => ckB (inb xq24 42900) (lt (gI mq22 87 xq24.toNatClampNeg) fun xq26 => lt (sI mq22 78 23 (gI mq16 78 23 + xq26)) fun mq27 => bnd (F_M_nextKind (iI j) mq27) fun xq30 mq28 => bnd (F_M_cell (iI (p + 1)) xq30 (10 : Int32) (-iI (l + rr)) mq28) fun xq33 mq31 => ckB (inb xq33 42900) (lt (gI mq31 86 xq33.toNatClampNeg) fun xq35 => lt (sI mq31 78 24 (gI mq27 78 24 + xq35)) fun mq36 => some ((), mq36)))) (fun _ m' => GW m' (pad v (nx (four r) (V P r) (mu j) (l + rr)))) := by
          intro hc
          rw [show nx (four r) (V P r) (mu j) (l + rr) = ((V P r (mu j + 1) 10 (-(l + rr))).2, (V P r (mu j + 1) 10 (-(l + rr))).1) by unfold nx; rw [if_neg hc]]
          unfold F_M_size
          rw [bnd_e, hwn]
          by_cases hz : r = 0
          · refine ok_t (by rw [iI_le (by omega) (by omega) (by omega) (by omega)]; omega) (ok_some ?_)
            rw [hz]
            show GW m (v.1 + 0, v.2 + 0)
            rw [Int.add_zero, Int.add_zero]
            exact ⟨g1, g2⟩
          · refine ok_f (by rw [iI_le (by omega) (by omega) (by omega) (by omega)]; omega) ?_
            have hc2 := fun m => cell_eq (m := m) (q := p + 1) (j := j') (o := 10) (l := -(l + rr)) (by omega) (by omega) n3 n4 (by omega) (by omega) (by omega) (by omega)
            have hx := cx_lt (q := p + 1) (j := j') (o := 10) (l := -(l + rr)) n3 n4 (by omega) (by omega) (by omega) (by omega)
            obtain ⟨c1, c2⟩ := hy (by omega) j' 10 (-(l + rr)) n3 n4 (by omega) (by omega) (by omega) (by omega)
            simp only [iI_neg, lt10]
            rw [bnd_some (n1' _), bnd_some (hc2 m), ckB_t (iI_inb (by omega) (by omega) (by omega)), lt_def, lt_def, bnd_some (n1' _), bnd_some (hc2 _), ckB_t (iI_inb (by omega) (by omega) (by omega)), lt_def, lt_def, iI_idx (by omega) (by omega), Int.toNat_natCast]
            refine ok_some ⟨?_, ?_⟩
            · rw [← n2]
              show gI m 78 23 + gI m 87 (cx (p + 1) j' 10 (-(l + rr))) = _
              rw [c2, g1, iI_add]
              rfl
            · rw [← n2]
              show gI m 78 24 + gI m 86 (cx (p + 1) j' 10 (-(l + rr))) = _
              rw [c1, g2, iI_add]
              rfl
        by_cases h6 : 3 < j'
        · refine ok_f (by rw [lt3, iI_le (by omega) (by omega) (by omega) (by omega)]; omega) ?_
          by_cases h7 : l + rr < 0
          · refine ok_f (by rw [lt0, iI_le (by omega) (by omega) (by omega) (by omega)]; omega) (ok_bnd_e hA (ok_lt (ok_some ?_)))
            rw [show nx (four r) (V P r) (mu j) (l + rr) = (0, four r) by unfold nx; rw [if_pos ⟨by rw [n6]; exact h6, h7⟩], g2, iI_add]
            exact ⟨by show gI m 78 23 = iI (v.1 + 0); rw [Int.add_zero]; exact g1, rfl⟩
          · refine ok_t (by rw [lt0, iI_le (by omega) (by omega) (by omega) (by omega)]; omega) (hk204 (fun q => h7 q.2))
        · refine ok_t (by rw [lt3, iI_le (by omega) (by omega) (by omega) (by omega)]; omega) (hk204 (fun q => h6 (by rw [← n6]; exact q.1)))
    · refine ok_f (by rw [lt10, iI_le (by omega) (by omega) (by omega) (by omega)]; exact h10) ?_
      exact hlow (oo o + uu) (by omega) (by omega) rfl hj
  by_cases h3 : 3 < j
  · refine ok_f (by rw [lt3, iI_le (by omega) (by omega) (by omega) (by omega)]; omega) ?_
    by_cases h4 : 0 < l + rr
    · refine ok_f (by rw [lt0, iI_le (by omega) (by omega) (by omega) (by omega)]; omega) (ok_bnd_e hA (ok_lt (ok_some ?_)))
      rw [bh_lead (by rw [hmi]; exact h3) h4, g1, iI_add]
      exact ⟨rfl, by show gI m 78 24 = iI (v.2 + 0); rw [Int.add_zero]; exact g2⟩
    · refine ok_t (by rw [lt0, iI_le (by omega) (by omega) (by omega) (by omega)]; omega) (hk68 (fun _ => by omega))
  · refine ok_t (by rw [lt3, iI_le (by omega) (by omega) (by omega) (by omega)]; omega) (hk68 (fun q => absurd q h3))
end MOD2
