section OCLS3
theorem pk00 (b : Bool) : pk b (0, 0) = 0 := by cases b <;> rfl
theorem behind_od {law : Option (List (Int × List Int))} {P : OP} {mg tx bc f dw : Int} {mk : Int64} {bl : Bool} {wd : Int} {m0 m : Mem} (hB : OB law P mg tx bc f dw mk bl wd m0) (h : OI law P mk m0 m) {rc : Int32 → Int32 → Int32 → Int32 → Mem → Option (Int64 × Mem)} {pv : Int → Int → Int → Int × Int} {p k o l L : Int} (p0 : 0 ≤ p) (pn : p ≤ P.n) (hL : L < 1000) (l0 : -L ≤ l) (l1 : l ≤ L) (k0 : 0 ≤ k) (k5 : k ≤ 5) (o0 : 0 ≤ o) (o1 : o ≤ 10) (hrc : RC law P mk m0 rc pv p L) : Ok (F_Od_waysBehind rc (iI p) (iI k) (iI o) (iI l) m) (fun v m' => v = pk (fb k) (bh (four (P.n - p).toNat) pv k o (sg k l)) ∧ OI law P mk m0 m') := by
  have hn9 := hB.gr.n9
  have hcn : gI m 3 0 = iI P.n := (h.1.I (by decide) (by decide) (by decide) (by decide)).trans hB.gr.cn
  have hA := fun b => allTo_eq (m := m) b hcn hn9 p0 pn
  unfold F_Od_waysBehind
  rw [bnd_some (inningsOf_eq k0 k5)]
  by_cases hi : inn k = 3
  · have hk : k = 3 ∨ k = 5 := by
      rcases (show k = 0 ∨ k = 1 ∨ k = 2 ∨ k = 3 ∨ k = 4 ∨ k = 5 by omega) with rfl | rfl | rfl | rfl | rfl | rfl
      · exact absurd hi (by decide)
      · exact absurd hi (by decide)
      · exact absurd hi (by decide)
      · exact Or.inl rfl
      · exact absurd hi (by decide)
      · exact Or.inr rfl
    refine ok_t (by rw [hi]; rfl) ?_
    rw [bnd_some (firstBats_eq k0 k5)]
    refine ok_lt ?_
    have hs : sg k l = l ∨ sg k l = -l := by unfold sg; split <;> simp
    have main : Ok (if iI (sg k l) ≤ 0 then if iI o = 10 then if iI (sg k l) = 0 then some (0, m) else lt (fun (zq13 : Bool) (mq12 : Mem) => bnd (F_Od_allTo zq13 (iI p) mq12) fun yq16 mq14 => some (yq16, mq14)) fun k95_13 => if fb k = true then k95_13 false m else k95_13 true m else bnd (rc (iI p) (iI k) (iI o) (iI l) m) fun yq11 mq9 => some (yq11, mq9) else bnd (F_Od_allTo (fb k) (iI p) m) fun yq19 mq17 => some (yq19, mq17)) (fun v m' => v = pk (fb k) (bh (four (P.n - p).toNat) pv k o (sg k l)) ∧ OI law P mk m0 m') := by
      unfold bh
      rw [if_pos hi]
      by_cases h1 : 0 < sg k l
      · rw [if_pos h1]
        refine ok_f ?_ (ok_bnd_e (hA _) (ok_some ⟨rfl, h⟩))
        rw [lt0, iI_le (by omega) (by omega) (by omega) (by omega)]
        omega
      · rw [if_neg h1]
        refine ok_t ?_ ?_
        · rw [lt0, iI_le (by omega) (by omega) (by omega) (by omega)]
          omega
        by_cases h2 : o = 10
        · rw [if_pos h2]
          refine ok_t (by rw [h2]; rfl) ?_
          by_cases h3 : sg k l = 0
          · rw [if_pos h3]
            exact ok_t (by rw [h3]; rfl) (ok_some ⟨(pk00 _).symm, h⟩)
          · rw [if_neg h3]
            refine ok_f ?_ (ok_lt ?_)
            · rw [lt0, iI_eq (by omega) (by omega) (by omega) (by omega)]
              exact h3
            rcases hk with rfl | rfl
            · exact ok_f (by decide) (ok_bnd_e (hA _) (ok_some ⟨by simp [fb, pk], h⟩))
            · exact ok_t (by decide) (ok_bnd_e (hA _) (ok_some ⟨by simp [fb, pk], h⟩))
        · rw [if_neg h2]
          refine ok_f ?_ ?_
          · rw [lt10, iI_eq (by omega) (by omega) (by omega) (by omega)]
            exact h2
          · exact ok_bnd (ok_of (hrc k o l m h k0 k5 o0 o1 l0 l1) (fun v m' hv => ok_some hv))
    rcases hk with rfl | rfl
    · refine ok_f (by decide) ?_
      rw [iI_neg]
      exact main
    · refine ok_t (by decide) ?_
      exact main
  · have hk : k = 0 ∨ k = 1 ∨ k = 2 ∨ k = 4 := by
      rcases (show k = 0 ∨ k = 1 ∨ k = 2 ∨ k = 3 ∨ k = 4 ∨ k = 5 by omega) with rfl | rfl | rfl | rfl | rfl | rfl
      · exact Or.inl rfl
      · exact Or.inr (Or.inl rfl)
      · exact Or.inr (Or.inr (Or.inl rfl))
      · exact absurd rfl hi
      · exact Or.inr (Or.inr (Or.inr rfl))
      · exact absurd rfl hi
    have hir := inn_rng k0 k5
    refine ok_f ?_ ?_
    · rw [lt3, iI_eq (by omega) (by omega) (by omega) (by omega)]
      exact hi
    unfold bh
    rw [if_neg hi]
    by_cases h2 : o = 10
    · rw [if_pos h2]
      refine ok_t (by rw [h2]; rfl) (ok_bnd ?_)
      refine ok_of (next_od hB h p0 pn hL l0 l1 hk (fun m hm => hrc (k + 1) 10 l m hm (by omega) (by omega) (by omega) (by omega) l0 l1)) (fun v m' hv => ok_some hv)
    · rw [if_neg h2]
      refine ok_f ?_ ?_
      · rw [lt10, iI_eq (by omega) (by omega) (by omega) (by omega)]
        exact h2
      · exact ok_bnd (ok_of (hrc k o l m h k0 k5 o0 o1 l0 l1) (fun v m' hv => ok_some hv))
theorem OB.P_R {law : Option (List (Int × List Int))} {P : OP} {mg tx bc f dw : Int} {mk : Int64} {bl : Bool} {wd : Int} {m0 : Mem} (hB : OB law P mg tx bc f dw mk bl wd m0) (p k s : Int) : P.R p k s = if rainB (gI m0 79) p = true then 0 else (gI m0 79 (23 + 2 * (4 * levZ (gI m0 79) law p (inn k) (btK f k) + s)).toNat).toInt := by
  rw [hB.hP]; rfl
theorem OB.P_U {law : Option (List (Int × List Int))} {P : OP} {mg tx bc f dw : Int} {mk : Int64} {bl : Bool} {wd : Int} {m0 : Mem} (hB : OB law P mg tx bc f dw mk bl wd m0) (p k s : Int) : P.U p k s = if rainB (gI m0 79) p = true then 0 else (gI m0 79 (24 + 2 * (4 * levZ (gI m0 79) law p (inn k) (btK f k) + s)).toNat).toInt := by
  rw [hB.hP]; rfl
theorem OB.P_dw {law : Option (List (Int × List Int))} {P : OP} {mg tx bc f dw : Int} {mk : Int64} {bl : Bool} {wd : Int} {m0 : Mem} (hB : OB law P mg tx bc f dw mk bl wd m0) : P.dw = dw := by rw [hB.hP]; rfl
theorem OB.P_mg {law : Option (List (Int × List Int))} {P : OP} {mg tx bc f dw : Int} {mk : Int64} {bl : Bool} {wd : Int} {m0 : Mem} (hB : OB law P mg tx bc f dw mk bl wd m0) : P.mg = mg := by rw [hB.hP]; rfl
theorem OB.P_bl {law : Option (List (Int × List Int))} {P : OP} {mg tx bc f dw : Int} {mk : Int64} {bl : Bool} {wd : Int} {m0 : Mem} (hB : OB law P mg tx bc f dw mk bl wd m0) : P.bl = bl := by rw [hB.hP]; rfl
theorem LawRep.okl {law : Option (List (Int × List Int))} {m : Mem} {lo co A : Nat} (h : LawRep law m lo co A) : ∀ l, law = some l → okLaw l := by
  intro l hl
  subst hl
  exact h.2.1
theorem OB.lvR {law : Option (List (Int × List Int))} {P : OP} {mg tx bc f dw : Int} {mk : Int64} {bl : Bool} {wd : Int} {m0 : Mem} (hB : OB law P mg tx bc f dw mk bl wd m0) (p k : Int) : 0 ≤ levZ (gI m0 79) law p (inn k) (btK f k) ∧ levZ (gI m0 79) law p (inn k) (btK f k) ≤ 3 := levZ_rng hB.gr.la.okl
theorem OB.R_rng {law : Option (List (Int × List Int))} {P : OP} {mg tx bc f dw : Int} {mk : Int64} {bl : Bool} {wd : Int} {m0 : Mem} (hB : OB law P mg tx bc f dw mk bl wd m0) (p k s : Int) (s0 : 0 ≤ s) (s3 : s ≤ 3) : 0 ≤ P.R p k s ∧ P.R p k s ≤ 9 := by
  rw [hB.P_R]
  have h1 := hB.lvR p k
  obtain ⟨z, e, z0, z9⟩ := hB.gr.slr (2 * (4 * levZ (gI m0 79) law p (inn k) (btK f k) + s)).toNat (by omega)
  rw [show (23 + 2 * (4 * levZ (gI m0 79) law p (inn k) (btK f k) + s)).toNat = 23 + (2 * (4 * levZ (gI m0 79) law p (inn k) (btK f k) + s)).toNat by omega, e, iI_toInt (by omega) (by omega)]
  split <;> omega
theorem OB.U_rng {law : Option (List (Int × List Int))} {P : OP} {mg tx bc f dw : Int} {mk : Int64} {bl : Bool} {wd : Int} {m0 : Mem} (hB : OB law P mg tx bc f dw mk bl wd m0) (p k s : Int) (s0 : 0 ≤ s) (s3 : s ≤ 3) : 0 ≤ P.U p k s ∧ P.U p k s ≤ 9 := by
  rw [hB.P_U]
  have h1 := hB.lvR p k
  obtain ⟨z, e, z0, z9⟩ := hB.gr.slr (1 + 2 * (4 * levZ (gI m0 79) law p (inn k) (btK f k) + s)).toNat (by omega)
  rw [show (24 + 2 * (4 * levZ (gI m0 79) law p (inn k) (btK f k) + s)).toNat = 23 + (1 + 2 * (4 * levZ (gI m0 79) law p (inn k) (btK f k) + s)).toNat by omega, e, iI_toInt (by omega) (by omega)]
  split <;> omega
end OCLS3
