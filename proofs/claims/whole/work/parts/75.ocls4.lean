section OCLS4
theorem slot_od {law : Option (List (Int × List Int))} {P : OP} {mg tx bc f dw : Int} {mk : Int64} {bl : Bool} {wd : Int} {m0 m : Mem} (hB : OB law P mg tx bc f dw mk bl wd m0) (h : OI law P mk m0 m) {rc : Int32 → Int32 → Int32 → Int32 → Mem → Option (Int64 × Mem)} {pv : Int → Int → Int → Int × Int} {p k o l L s : Int} (hd : Bool) (p0 : 0 ≤ p) (pn : p < P.n) (hL : L < 900) (l0 : -L ≤ l) (l1 : l ≤ L) (k0 : 0 ≤ k) (k5 : k ≤ 5) (o0 : 0 ≤ o) (o1 : o ≤ 10) (s0 : 0 ≤ s) (s3 : s < 4) (hrc : RC law P mk m0 rc pv (p + 1) (L + 9)) : Ok (F_Od_waysOfSlot rc (iI p) (iI k) (iI o) (iI l) (iI s) hd m) (fun v m' => v = pk (fb k) (slt P (four (P.n - (p + 1)).toNat) pv p k o (sg k l) hd s) ∧ OI law P mk m0 m') := by
  have hn9 := hB.gr.n9
  have f0 := hB.f0
  have f1 := hB.f1
  have hir := inn_rng k0 k5
  obtain ⟨m1, e1, h1⟩ := OI.lev hB h (s := p) (i := inn k) (b := btK f k) p0 (by omega) (by omega) (by omega) (by unfold btK; split <;> omega) (by unfold btK; split <;> omega)
  have hf : gI m 2 4 = iI f := (h.1.I (by decide) (by decide) (by decide) (by decide)).trans hB.hf
  have hg := same_gr hB.gr h1.1
  have hw : gI m0 79 = gI m1 79 := by funext j; exact (h1.1.I (by decide) (by decide) (by decide) (by decide)).symm
  have hl := hB.lvR p k
  have eR := runsIn_eq (m := m1) hw hg.ra hg.sl p0 (by omega) hl.1 (by omega) s0 s3
  have eU := outsIn_eq (m := m1) hw hg.ra hg.sl p0 (by omega) hl.1 (by omega) s0 s3
  rw [← hB.P_R] at eR
  rw [← hB.P_U] at eU
  obtain ⟨r0, r9⟩ := hB.R_rng p k s s0 (by omega)
  obtain ⟨u0, u9⟩ := hB.U_rng p k s s0 (by omega)
  generalize hrr : P.R p k s = r at *
  generalize huu : P.U p k s = u at *
  have key : ∀ l' o', -(L + 9) ≤ l' → l' ≤ L + 9 → 0 ≤ o' → o' ≤ 10 → bh (four (P.n - (p + 1)).toNat) pv k o' (sg k l') = slt P (four (P.n - (p + 1)).toNat) pv p k o (sg k l) hd s → Ok (bnd (F_Od_waysBehind rc (iI (p + 1)) (iI k) (iI o') (iI l') m1) fun yq23 mq21 => some (yq23, mq21)) (fun v m' => v = pk (fb k) (slt P (four (P.n - (p + 1)).toNat) pv p k o (sg k l) hd s) ∧ OI law P mk m0 m') := by
    intro l' o' a1 a2 a3 a4 he
    refine ok_bnd (ok_of (behind_od hB h1 (by omega) (by omega) (by omega) a1 a2 k0 k5 a3 a4 hrc) (fun v m' hv => ok_some ⟨?_, hv.2⟩))
    rw [hv.1, he]
  unfold F_Od_waysOfSlot
  rw [bnd_some (firstBats_eq k0 k5), bnd_some (inningsOf_eq k0 k5), lt_def, hf]
  unfold btK at e1 eR eU
  have hslt : ∀ l' o', o' = min 10 (o + (if hd = true then max 0 (u - 1) else u)) → sg k l' = sg k l + (if hd = true then 0 else r) → bh (four (P.n - (p + 1)).toNat) pv k o' (sg k l') = slt P (four (P.n - (p + 1)).toNat) pv p k o (sg k l) hd s := by
    intro l' o' q1 q2
    unfold slt ou ru
    rw [hrr, huu, q1, q2]
  cases hfb : fb k <;> cases hd
  · rw [if_neg (by decide), lt1, iI_sub]
    rw [if_neg (by rw [hfb]; decide)] at e1 eR eU
    dsimp only
    rw [bnd_some e1, lt_def, if_neg (by decide), bnd_some eR]
    dsimp only
    rw [bnd_some eU, lt_def, if_neg (by decide)]
    dsimp only
    rw [lt_def, if_neg (by decide)]
    dsimp only
    rw [iI_add, iI_add, iI_sub, lt10, mnI_iI (by omega) (by omega) (by omega) (by omega)]
    rw [hfb] at key
    refine key _ _ (by omega) (by omega) (by omega) (by omega) (hslt _ _ (by simp) ?_)
    simp [sg, hfb]; omega
  · rw [if_neg (by decide), lt1, iI_sub]
    rw [if_neg (by rw [hfb]; decide)] at e1 eR eU
    dsimp only
    rw [bnd_some e1, lt_def, if_pos rfl]
    dsimp only
    rw [bnd_some eU, lt_def, if_pos rfl, lt_def]
    dsimp only
    rw [lt_def, if_neg (by decide)]
    dsimp only
    rw [iI_add, lt0, iI_sub, iI_sub, mxI_iI (by omega) (by omega) (by omega) (by omega), iI_add, lt10, mnI_iI (by omega) (by omega) (by omega) (by omega)]
    rw [hfb] at key
    refine key _ _ (by omega) (by omega) (by omega) (by omega) (hslt _ _ (by simp) ?_)
    simp [sg, hfb]
  · rw [if_pos rfl]
    rw [if_pos (by rw [hfb])] at e1 eR eU
    dsimp only
    rw [bnd_some e1, lt_def, if_neg (by decide), bnd_some eR]
    dsimp only
    rw [bnd_some eU, lt_def, if_neg (by decide)]
    dsimp only
    rw [lt_def, if_pos rfl]
    dsimp only
    rw [lt1, iI_add, iI_add, iI_add, lt10, mnI_iI (by omega) (by omega) (by omega) (by omega)]
    rw [hfb] at key
    refine key _ _ (by omega) (by omega) (by omega) (by omega) (hslt _ _ (by simp) ?_)
    simp [sg, hfb]
  · rw [if_pos rfl]
    rw [if_pos (by rw [hfb])] at e1 eR eU
    dsimp only
    rw [bnd_some e1, lt_def, if_pos rfl]
    dsimp only
    rw [bnd_some eU, lt_def, if_pos rfl, lt_def]
    dsimp only
    rw [lt_def, if_pos rfl]
    dsimp only
    rw [lt1, iI_add, lt0, iI_sub, iI_add, mxI_iI (by omega) (by omega) (by omega) (by omega), iI_add, lt10, mnI_iI (by omega) (by omega) (by omega) (by omega)]
    rw [hfb] at key
    refine key _ _ (by omega) (by omega) (by omega) (by omega) (hslt _ _ (by simp) ?_)
    simp [sg, hfb]
theorem session_od {law : Option (List (Int × List Int))} {P : OP} {mg tx bc f dw : Int} {mk : Int64} {bl : Bool} {wd : Int} {m0 m : Mem} (hB : OB law P mg tx bc f dw mk bl wd m0) (h : OI law P mk m0 m) {rc : Int32 → Int32 → Int32 → Int32 → Mem → Option (Int64 × Mem)} {pv : Int → Int → Int → Int × Int} {p k o l L : Int} (hd : Bool) (p0 : 0 ≤ p) (pn : p < P.n) (hL : L < 900) (l0 : -L ≤ l) (l1 : l ≤ L) (k0 : 0 ≤ k) (k5 : k ≤ 5) (o0 : 0 ≤ o) (o1 : o ≤ 10) (hrc : RC law P mk m0 rc pv (p + 1) (L + 9)) : Ok (F_Od_waysOfSession rc (iI p) (iI k) (iI o) (iI l) hd m) (fun v m' => v = pk (fb k) (ses P (four (P.n - (p + 1)).toNat) pv p k o (sg k l) hd) ∧ OI law P mk m0 m') := by
  unfold F_Od_waysOfSession
  rw [show (1000000 : Nat) = 999995 + 1 + 1 + 1 + 1 + 1 from rfl]
  have st : ∀ (nf : Nat) (y : Int64) (s : Int) (m : Mem) (Q : Int64 → Mem → Prop), 0 ≤ s → s < 4 → OI law P mk m0 m → (∀ m', OI law P mk m0 m' → Ok (F_Od_waysOfSession_L6 rc (iI p) (iI k) (iI o) (iI l) hd nf (y + pk (fb k) (slt P (four (P.n - (p + 1)).toNat) pv p k o (sg k l) hd s)) (iI (s + 1)) m') Q) → Ok (F_Od_waysOfSession_L6 rc (iI p) (iI k) (iI o) (iI l) hd (nf + 1) y (iI s) m) Q := by
    intro nf y s m Q s0 s4 hm hq
    rw [F_Od_waysOfSession_L6]
    refine ok_f ?_ (ok_bnd ?_)
    · rw [lt4, iI_le (by omega) (by omega) (by omega) (by omega)]; omega
    refine ok_of (slot_od hB hm hd p0 pn hL l0 l1 k0 k5 o0 o1 s0 s4 hrc) (fun v m' hv => ?_)
    refine ok_lt (ok_lt ?_)
    rw [hv.1, lt1, iI_add]
    exact hq m' hv.2
  rw [lt0]
  refine st _ _ _ _ _ (by omega) (by omega) h (fun m1 h1 => ?_)
  refine st _ _ _ _ _ (by omega) (by omega) h1 (fun m2 h2 => ?_)
  refine st _ _ _ _ _ (by omega) (by omega) h2 (fun m3 h3 => ?_)
  refine st _ _ _ _ _ (by omega) (by omega) h3 (fun m4 h4 => ?_)
  rw [F_Od_waysOfSession_L6]
  refine ok_t (by decide) (ok_some ⟨?_, h4⟩)
  rw [← pk00 (fb k), pk_add, pk_add, pk_add, pk_add]
  unfold ses pad
  simp
end OCLS4
