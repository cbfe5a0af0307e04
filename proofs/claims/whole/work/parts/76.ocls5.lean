section OCLS5
def oo (o : Int) : Int := if o = 10 then 0 else o
theorem oo_rng {o : Int} (h : 0 ≤ o) (h1 : o ≤ 10) : 0 ≤ oo o ∧ oo o ≤ 10 := by unfold oo; split <;> omega
theorem going_od {law : Option (List (Int × List Int))} {P : OP} {mg tx bc f dw : Int} {mk : Int64} {bl : Bool} {wd : Int} {m0 m : Mem} (hB : OB law P mg tx bc f dw mk bl wd m0) (h : OI law P mk m0 m) {rc : Int32 → Int32 → Int32 → Int32 → Mem → Option (Int64 × Mem)} {pv : Int → Int → Int → Int × Int} {p k o l L : Int} (p0 : 0 ≤ p) (pn : p < P.n) (hL : L < 900) (l0 : -L ≤ l) (l1 : l ≤ L) (k0 : 0 ≤ k) (k5 : k ≤ 5) (o0 : 0 ≤ o) (o1 : o ≤ 10) (hrc : RC law P mk m0 rc pv (p + 1) (L + 9)) : Ok (F_Od_waysGoingOn rc (iI p) (iI k) (iI o) (iI l) m) (fun v m' => v = pk (fb k) (ses P (four (P.n - (p + 1)).toNat) pv p k (oo o) (sg k l) false) ∧ OI law P mk m0 m') := by
  have ho := oo_rng o0 o1
  have h1 := session_od hB h false p0 pn hL l0 l1 k0 k5 ho.1 ho.2 hrc
  unfold F_Od_waysGoingOn
  refine ok_lt ?_
  by_cases hc : o = 10
  · refine ok_t (by rw [hc]; rfl) (ok_bnd ?_)
    rw [show oo o = 0 by unfold oo; rw [if_pos hc]] at h1 ⊢
    exact ok_of h1 (fun v m' hv => ok_some hv)
  · refine ok_f ?_ (ok_bnd ?_)
    · rw [lt10, iI_eq (by omega) (by omega) (by omega) (by omega)]; exact hc
    rw [show oo o = o by unfold oo; rw [if_neg hc]] at h1 ⊢
    exact ok_of h1 (fun v m' hv => ok_some hv)
def oc (mg k o l : Int) : Int := if inn k = 3 then 3 else if o = 10 then (if k = 2 ∧ mg ≤ l then 2 else 0) else 1
theorem otherChoice_eq {mg k o l : Int} {m : Mem} (h : gI m 3 4 = iI mg) (g0 : 0 ≤ mg) (g1 : mg ≤ 99) (k0 : 0 ≤ k) (k5 : k ≤ 5) (o0 : 0 ≤ o) (o1 : o ≤ 10) (l0 : -1000 ≤ l) (l1 : l ≤ 1000) : F_Od_otherChoice (iI k) (iI o) (iI l) m = some (iI (oc mg k o l), m) := by
  have hir := inn_rng k0 k5
  unfold F_Od_otherChoice oc
  rw [bnd_some (inningsOf_eq k0 k5), h, lt3, lt10, lt2, lt0, lt1]
  by_cases h1 : inn k = 3
  · rw [if_pos h1, if_pos (by rw [h1])]
  · rw [if_neg h1, if_neg (by rw [iI_eq (by omega) (by omega) (by omega) (by omega)]; exact h1)]
    by_cases h2 : o = 10
    · rw [if_pos h2, if_pos (by rw [h2])]
      by_cases h3 : k = 2
      · rw [if_pos (by rw [h3])]
        by_cases h4 : mg ≤ l
        · rw [if_neg (by rw [iI_lt (by omega) (by omega) (by omega) (by omega)]; omega), if_pos ⟨h3, h4⟩]
        · rw [if_pos (by rw [iI_lt (by omega) (by omega) (by omega) (by omega)]; omega), if_neg (fun q => h4 q.2)]
      · rw [if_neg (by rw [iI_eq (by omega) (by omega) (by omega) (by omega)]; exact h3), if_neg (fun q => h3 q.1)]
    · rw [if_neg h2, if_neg (by rw [iI_eq (by omega) (by omega) (by omega) (by omega)]; exact h2)]
/-- what comes of the other choice -/
def ow (P : OP) (al : Int) (pv : Int → Int → Int → Int × Int) (p k o l : Int) : Int × Int := if inn k = 3 then ses P al pv p k (oo o) l true else if o = 10 then ((ses P al pv p 4 0 (-l) false).2, (ses P al pv p 4 0 (-l) false).1) else nx (4 * al) (fun k' _ l' => frV P al pv p k' l') k l
theorem otherwise_od {law : Option (List (Int × List Int))} {P : OP} {mg tx bc f dw : Int} {mk : Int64} {bl : Bool} {wd : Int} {m0 m : Mem} (hB : OB law P mg tx bc f dw mk bl wd m0) (h : OI law P mk m0 m) {rc : Int32 → Int32 → Int32 → Int32 → Mem → Option (Int64 × Mem)} {pv : Int → Int → Int → Int × Int} {p k o l L : Int} (p0 : 0 ≤ p) (pn : p < P.n) (hL : L < 900) (l0 : -L ≤ l) (l1 : l ≤ L) (k0 : 0 ≤ k) (k5 : k ≤ 5) (o0 : 0 ≤ o) (o1 : o ≤ 10) (hrc : RC law P mk m0 rc pv (p + 1) (L + 9)) (hc : oc mg k o l ≠ 0)
    (hfr : o ≠ 10 → ∀ k l m, OI law P mk m0 m → 0 ≤ k → k ≤ 5 → -L ≤ l → l ≤ L → Ok (rc (iI p) (iI k) (iI 10) (iI l) m) (fun v m' => v = pk (fb k) (frV P (four (P.n - (p + 1)).toNat) pv p k (sg k l)) ∧ OI law P mk m0 m')) : Ok (F_Od_waysOtherwise rc (iI p) (iI k) (iI o) (iI l) m) (fun v m' => v = pk (fb k) (ow P (four (P.n - (p + 1)).toNat) pv p k o (sg k l)) ∧ OI law P mk m0 m') := by
  have ho := oo_rng o0 o1
  have hcm : gI m 3 4 = iI mg := (h.1.I (by decide) (by decide) (by decide) (by decide)).trans hB.gr.cmg
  unfold F_Od_waysOtherwise
  rw [bnd_some (otherChoice_eq hcm hB.gr.mg0 hB.gr.mg9 k0 k5 o0 o1 (by omega) (by omega))]
  unfold ow
  by_cases h1 : inn k = 3
  · rw [show oc mg k o l = 3 by unfold oc; rw [if_pos h1], if_pos h1]
    refine ok_f (by decide) (ok_f (by decide) (ok_lt ?_))
    have h2 := session_od hB h true p0 pn hL l0 l1 k0 k5 ho.1 ho.2 hrc
    by_cases hc : o = 10
    · refine ok_t (by rw [hc]; rfl) (ok_bnd ?_)
      rw [show oo o = 0 by unfold oo; rw [if_pos hc]] at h2 ⊢
      exact ok_of h2 (fun v m' hv => ok_some hv)
    · refine ok_f ?_ (ok_bnd ?_)
      · rw [lt10, iI_eq (by omega) (by omega) (by omega) (by omega)]; exact hc
      rw [show oo o = o by unfold oo; rw [if_neg hc]] at h2 ⊢
      exact ok_of h2 (fun v m' hv => ok_some hv)
  · rw [if_neg h1]
    by_cases h2 : o = 10
    · have h3 : k = 2 ∧ mg ≤ l := by
        by_cases h3 : k = 2 ∧ mg ≤ l
        · exact h3
        · exact absurd (by unfold oc; rw [if_neg h1, if_pos h2, if_neg h3]) hc
      rw [show oc mg k o l = 2 by unfold oc; rw [if_neg h1, if_pos h2, if_pos h3], if_pos h2]
      obtain ⟨rfl, -⟩ := h3
      refine ok_f (by decide) (ok_t (by decide) (ok_bnd ?_))
      rw [lt2, iI_add, lt0]
      have h4 := session_od hB h (k := 4) (o := 0) false p0 pn hL l0 l1 (by omega) (by omega) (by omega) (by omega) hrc
      refine ok_of h4 (fun v m' hv => ok_some ⟨?_, hv.2⟩)
      rw [hv.1, pk_sw]
      rfl
    · rw [show oc mg k o l = 1 by unfold oc; rw [if_neg h1, if_neg h2], if_neg h2]
      refine ok_t (by decide) (ok_bnd ?_)
      have hk : k = 0 ∨ k = 1 ∨ k = 2 ∨ k = 4 := by
        rcases (show k = 0 ∨ k = 1 ∨ k = 2 ∨ k = 3 ∨ k = 4 ∨ k = 5 by omega) with rfl | rfl | rfl | rfl | rfl | rfl
        · exact Or.inl rfl
        · exact Or.inr (Or.inl rfl)
        · exact Or.inr (Or.inr (Or.inl rfl))
        · exact absurd rfl h1
        · exact Or.inr (Or.inr (Or.inr rfl))
        · exact absurd rfl h1
      have h4 := next_od (pv := fun k' _ l' => frV P (four (P.n - (p + 1)).toNat) pv p k' l') hB h p0 (by omega) (show L < 1000 by omega) l0 l1 hk (fun m hm => hfr h2 (k + 1) l m hm (by omega) (by omega) l0 l1)
      rw [show four (P.n - p).toNat = 4 * four (P.n - (p + 1)).toNat by rw [show (P.n - p).toNat = (P.n - (p + 1)).toNat + 1 by omega]; rfl] at h4
      exact ok_of h4 (fun v m' hv => ok_some hv)
theorem draws_eq {n q : Int} {m : Mem} (h : gI m 3 0 = iI n) (n9 : n ≤ 9) (q0 : 0 ≤ q) (qn : q ≤ n) (b : Bool) {v : Int × Int} {al : Int} (hv : vOK v al) (ha : al ≤ 262144) : F_Od_draws (pk b v) (iI q) m = some (iL (four (n - q).toNat - v.1 - v.2), m) := by
  unfold F_Od_draws
  rw [bnd_some (all_eq h n9 q0 qn), bnd_some (waysOf_eq b true v al hv ha m), bnd_some (waysOf_eq b false v al hv ha m), iL_sub, iL_sub]
  cases b
  · rw [if_neg (by decide), if_pos rfl, show four (n - q).toNat - v.2 - v.1 = four (n - q).toNat - v.1 - v.2 by omega]
  · rw [if_pos rfl, if_neg (by decide)]
theorem valueOf_eq {n q dw : Int} {m : Mem} (h : gI m 3 0 = iI n) (n9 : n ≤ 9) (q0 : 0 ≤ q) (qn : q ≤ n) (b c : Bool) {v : Int × Int} {al : Int} (hv : vOK v al) (ha : al ≤ 262144) (d0 : 0 ≤ dw) (d1 : dw ≤ 100) : F_Od_valueOf (pk b v) (iI q) c (iI dw) m = some (iL (100 * (if c = b then v.1 else v.2) + dw * (four (n - q).toNat - v.1 - v.2)), m) := by
  unfold F_Od_valueOf
  rw [bnd_some (waysOf_eq b c v al hv ha m), bnd_some (draws_eq h n9 q0 qn b hv ha), iI_L (by omega) (by omega), show (100 : Int64) = iL 100 from rfl, iL_mul, iL_mul, iL_add]
theorem vl_rng {P : OP} {al : Int} {v : Int × Int} (h : vOK v al) (d0 : 0 ≤ P.dw) (d1 : P.dw ≤ 100) : 0 ≤ vl P al v ∧ vl P al v ≤ 200 * al := by
  obtain ⟨h1, h2, h3⟩ := h
  unfold vl
  have h4 : 0 ≤ P.dw * (al - v.1 - v.2) := Int.mul_nonneg d0 (by omega)
  have h5 : P.dw * (al - v.1 - v.2) ≤ 100 * (al - v.1 - v.2) := Int.mul_le_mul_of_nonneg_right d1 (by omega)
  omega
end OCLS5
