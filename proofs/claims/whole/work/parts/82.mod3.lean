section MOD3
def MO (P : OP) (more : Int) : Prop := 0 ≤ more ∧ more ≤ 9 ∧ ∀ p k s, 0 ≤ s → s < 4 → P.R p k s ≤ more
theorem MO.hru {P : OP} {more : Int} (h : MO P more) {p k s : Int} (hd : Bool) (s0 : 0 ≤ s) (s4 : s < 4) : ru P p k s hd ≤ more := by
  unfold ru
  split
  · exact h.1
  · exact h.2.2 p k s s0 s4
theorem goesOn_ok {law : Option (List (Int × List Int))} {P : OP} {mg tx bc f dw : Int} {bl : Bool} {wd : Int} {m0 m : Mem} (hB : MB law P mg tx bc f dw bl wd m0) (h : SameM m0 m) {p j o l L more : Int} {r : Nat} (hd : Bool) (hl : LV law f p m) (p0 : 0 ≤ p) (hr : P.n - (p + 1) = (r : Int)) (j0 : 0 ≤ j) (j5 : j ≤ 5) (o0 : 0 ≤ o) (o1 : o ≤ 10) (hy : 0 < r → LY P m (p + 1) r L) (l0 : -L ≤ l) (l1 : l + more ≤ L) (hmo : MO P more) (hL : L ≤ 162) : Ok (F_M_goesOn (iI p) (iI j) (iI o) (iI l) hd m) (fun _ m' => GW m' (ses P (four r) (V P r) p (mu j) (oo o) l hd) ∧ SameM m0 m' ∧ Fr [] [(78, 23), (78, 24)] m m') := by
  suffices hh : Ok (F_M_goesOn (iI p) (iI j) (iI o) (iI l) hd m) (fun _ m' => GW m' (ses P (four r) (V P r) p (mu j) (oo o) l hd)) by
    obtain ⟨a, m', e1, e2⟩ := hh
    have hf := fr_M_goesOn _ _ _ _ _ _ _ _ e1
    exact ⟨a, m', e1, e2, h.tr hf, hf⟩
  unfold F_M_goesOn
  refine ok_lt (ok_lt ?_)
  have hz : Fr [] [(78, 23), (78, 24)] m (sI (sI m 78 23 0) 78 24 0) := Fr_sI rfl (Fr_sI rfl Fr_rf (by simp)) (by simp)
  rw [show (1000000 : Nat) = 999995 + 1 + 1 + 1 + 1 + 1 from rfl]
  have st : ∀ (nf : Nat) (v : Int × Int) (s : Int) (mm : Mem) (Q : Unit → Mem → Prop), 0 ≤ s → s < 4 → Fr [] [(78, 23), (78, 24)] m mm → GW mm v → (∀ m', Fr [] [(78, 23), (78, 24)] m m' → GW m' (pad v (slt P (four r) (V P r) p (mu j) (oo o) l hd s)) → Ok (F_M_goesOn_L13 (iI p) (iI j) (iI o) (iI l) hd nf (iI (s + 1)) m') Q) → Ok (F_M_goesOn_L13 (iI p) (iI j) (iI o) (iI l) hd (nf + 1) (iI s) mm) Q := by
    intro nf v s mm Q s0 s4 hm hv hq
    rw [F_M_goesOn_L13]
    refine ok_f ?_ (ok_bnd ?_)
    · rw [lt4, iI_le (by omega) (by omega) (by omega) (by omega)]; omega
    refine ok_of (brings_ok hB (h.tr hm) hd (hl.fr hm) p0 hr j0 j5 o0 o1 s0 s4 (fun q => (hy q).fr hm) l0 l1 (hmo.hru hd s0 s4) hL hv) (fun v m' hv => ?_)
    refine ok_lt ?_
    rw [lt1, iI_add]
    exact hq m' (Fr_tr hm hv.2.2 (by simp) (by simp)) hv.1
  rw [lt0]
  refine st _ (0, 0) _ _ _ (by omega) (by omega) hz ⟨rfl, rfl⟩ (fun m1 h1 g1 => ?_)
  refine st _ _ _ _ _ (by omega) (by omega) h1 g1 (fun m2 h2 g2 => ?_)
  refine st _ _ _ _ _ (by omega) (by omega) h2 g2 (fun m3 h3 g3 => ?_)
  refine st _ _ _ _ _ (by omega) (by omega) h3 g3 (fun m4 h4 g4 => ?_)
  rw [F_M_goesOn_L13]
  refine ok_t (by decide) (ok_some ?_)
  have e : ∀ v : Int × Int, pad (0, 0) v = v := by
    intro v
    show (0 + v.1, 0 + v.2) = v
    rw [Int.zero_add, Int.zero_add]
  rw [e] at g4
  exact g4
theorem got_eq {law : Option (List (Int × List Int))} {P : OP} {mg tx bc f dw : Int} {bl : Bool} {wd : Int} {m0 m : Mem} (hB : MB law P mg tx bc f dw bl wd m0) (h : SameM m0 m) {p : Int} {v : Int × Int} {al : Int} (p0 : 0 ≤ p) (pn : p ≤ P.n) (hv : GW m v) (hk : vOK v al) (ha : al = four (P.n - p).toNat) : F_M_got (iI p) m = some (iL (vl P al v), m) := by
  have hn9 := hB.gr.n9
  have hwn : gI m 79 0 = iI P.n := (h.I (by decide) (by simp)).trans hB.gr.wn
  have hd : gI m 78 21 = iI dw := (h.I (by decide) (by simp)).trans hB.hd
  have h4 := four_le (P.n - p).toNat (by omega)
  have h5 : P.dw = dw := by rw [hB.hP]; rfl
  obtain ⟨q1, q2, q3⟩ := hk
  obtain ⟨g1, g2⟩ := hv
  have d0 := hB.d0
  have d1 := hB.d1
  unfold F_M_got F_M_worthOf
  rw [g1, g2, bnd_some (Mall_eq hwn hn9 p0 pn), hd, lt_def, iI_sub, iI_sub, ← ha, iI_L (by omega) (by omega), iI_L (by omega) (by omega), iI_L (by omega) (by omega), show (100 : Int64) = iL 100 from rfl, iL_mul, iL_mul, iL_add, bnd_e]
  unfold vl
  rw [h5]
theorem handsOver_ok {p j l : Int} {m : Mem} {w : Int × Int} (p0 : 0 ≤ p) (p9 : p ≤ 9) (j0 : 0 ≤ j) (j5 : j ≤ 5) (l0 : -162 ≤ l) (l1 : l ≤ 162) (h1 : gI m 86 (cx p j 10 (-l)) = iI w.1) (h2 : gI m 87 (cx p j 10 (-l)) = iI w.2) : Ok (F_M_handsOver (iI p) (iI j) (iI l) m) (fun _ m' => GW m' (w.2, w.1) ∧ Fr [] [(78, 23), (78, 24)] m m') := by
  have hc := fun m => cell_eq (m := m) (q := p) (j := j) (o := 10) (l := -l) p0 p9 j0 j5 (by omega) (by omega) (by omega) (by omega)
  have hx := cx_lt (q := p) (j := j) (o := 10) (l := -l) j0 j5 (by omega) (by omega) (by omega) (by omega)
  unfold F_M_handsOver
  rw [lt10, iI_neg, bnd_some (hc m), ckB_t (iI_inb (by omega) (by omega) (by omega)), lt_def, lt_def, bnd_some (hc _), ckB_t (iI_inb (by omega) (by omega) (by omega)), lt_def, lt_def, iI_idx (by omega) (by omega), Int.toNat_natCast]
  refine ok_some ⟨⟨?_, ?_⟩, Fr_sI rfl (Fr_sI rfl Fr_rf (by simp)) (by simp)⟩
  · exact h2
  · exact h1
/-- kinds from J on of a layer stand -/
def LYj (P : OP) (m : Mem) (q : Int) (r : Nat) (L J : Int) : Prop := ∀ j o l : Int, J ≤ j → 0 ≤ j → j ≤ 5 → 0 ≤ o → o ≤ 10 → -L ≤ l → l ≤ L → gI m 86 (cx q j o l) = iI (V P r (mu j) o l).1 ∧ gI m 87 (cx q j o l) = iI (V P r (mu j) o l).2
theorem LYj.fr {P : OP} {m m' : Mem} {q : Int} {r : Nat} {L J : Int} (h : LYj P m q r L J) (h2 : Fr [] [(78, 23), (78, 24)] m m') : LYj P m' q r L J := by
  intro j o l a b c d e g i
  rw [h2.gI (by decide) (by simp), h2.gI (by decide) (by simp)]
  exact h j o l a b c d e g i
/-- what comes of the other choice, or of none -/
def twV (P : OP) (al : Int) (pv : Int → Int → Int → Int × Int) (p k o l : Int) (v : Int × Int) : Int × Int := if inn k = 3 then ses P al pv p k (oo o) l true else if o = 10 then (if k = 2 ∧ P.mg ≤ l then ((ses P al pv p 4 0 (-l) false).2, (ses P al pv p 4 0 (-l) false).1) else v) else nx (4 * al) (fun k' _ l' => frV P al pv p k' l') k l
theorem V_10 {P : OP} {r : Nat} {p k l : Int} (hr : P.n - (p + 1) = (r : Int)) : V P (r + 1) k 10 l = frV P (four r) (V P r) p k l := by
  show atV P (four r) (V P r) (P.n - ((r : Int) + 1)) k 10 l = _
  rw [show P.n - ((r : Int) + 1) = p by omega]
  unfold atV
  rw [if_pos rfl]
theorem V_at {P : OP} {r : Nat} {p k o l : Int} (hr : P.n - (p + 1) = (r : Int)) : V P (r + 1) k o l = atV P (four r) (V P r) p k o l := by
  show atV P (four r) (V P r) (P.n - ((r : Int) + 1)) k o l = _
  rw [show P.n - ((r : Int) + 1) = p by omega]
theorem MB.R_rng {law : Option (List (Int × List Int))} {P : OP} {mg tx bc f dw : Int} {bl : Bool} {wd : Int} {m0 : Mem} (hB : MB law P mg tx bc f dw bl wd m0) (p k s : Int) (s0 : 0 ≤ s) (s3 : s ≤ 3) : 0 ≤ P.R p k s ∧ P.R p k s ≤ 9 := by
  have h1 : 0 ≤ levZ (gI m0 79) law p (inn k) (btK f k) ∧ levZ (gI m0 79) law p (inn k) (btK f k) ≤ 3 := levZ_rng hB.gr.la.okl
  have h2 : P.R p k s = if rainB (gI m0 79) p = true then 0 else (gI m0 79 (23 + 2 * (4 * levZ (gI m0 79) law p (inn k) (btK f k) + s)).toNat).toInt := by rw [hB.hP]; rfl
  rw [h2]
  obtain ⟨z, e, z0, z9⟩ := hB.gr.slr (2 * (4 * levZ (gI m0 79) law p (inn k) (btK f k) + s)).toNat (by omega)
  rw [show (23 + 2 * (4 * levZ (gI m0 79) law p (inn k) (btK f k) + s)).toNat = 23 + (2 * (4 * levZ (gI m0 79) law p (inn k) (btK f k) + s)).toNat by omega, e, iI_toInt (by omega) (by omega)]
  split <;> omega
theorem tries_ok {law : Option (List (Int × List Int))} {P : OP} {mg tx bc f dw : Int} {bl : Bool} {wd : Int} {m0 m : Mem} (hB : MB law P mg tx bc f dw bl wd m0) (h : SameM m0 m) {p j o l L Lp more : Int} {r : Nat} {v : Int × Int} (hl : LV law f p m) (p0 : 0 ≤ p) (hr : P.n - (p + 1) = (r : Int)) (j0 : 0 ≤ j) (j5 : j ≤ 5) (o0 : 0 ≤ o) (o1 : o ≤ 10) (hy : 0 < r → LY P m (p + 1) r L) (hyj : LYj P m p (r + 1) Lp (j + 1)) (l0 : -Lp ≤ l) (l1 : l ≤ Lp) (hLp : Lp + more ≤ L) (hmo : MO P more) (hL : L ≤ 162) (hv : GW m v) : Ok (F_M_tries (iI p) (iI j) (iI o) (iI l) m) (fun _ m' => GW m' (twV P (four r) (V P r) p (mu j) o l v) ∧ Fr [] [(78, 23), (78, 24)] m m') := by
  have hn9 := hB.gr.n9
  have hm0 := hmo.1
  have hmi := mu_inn j0 j5
  have hmg : gI m 79 1 = iI P.mg := by rw [show P.mg = mg by rw [hB.hP]; rfl]; exact (h.I (by decide) (by simp)).trans hB.gr.wmg
  have hg0 : 0 ≤ P.mg := by rw [show P.mg = mg by rw [hB.hP]; rfl]; exact hB.gr.mg0
  have hg9 : P.mg ≤ 99 := by rw [show P.mg = mg by rw [hB.hP]; rfl]; exact hB.gr.mg9
  unfold F_M_tries
  by_cases h3 : 3 < j
  · have hi : inn (mu j) = 3 := by rw [hmi]; exact h3
    rw [show twV P (four r) (V P r) p (mu j) o l v = ses P (four r) (V P r) p (mu j) (oo o) l true by unfold twV; rw [if_pos hi]]
    refine ok_f (by rw [lt3, iI_le (by omega) (by omega) (by omega) (by omega)]; omega) (ok_bnd ?_)
    refine ok_of (goesOn_ok hB h true hl p0 hr j0 j5 o0 o1 hy (by omega) (by omega) hmo hL) (fun v m' hv => ok_some ⟨hv.1, hv.2.2⟩)
  · have hi : ¬ inn (mu j) = 3 := by rw [hmi]; exact h3
    refine ok_t (by rw [lt3, iI_le (by omega) (by omega) (by omega) (by omega)]; omega) ?_
    by_cases ho : o = 10
    · have hmd : F_M_mayDeclare (iI j) (iI o) m = some (false, m) := by
        unfold F_M_mayDeclare
        rw [if_neg (by rw [lt4, iI_le (by omega) (by omega) (by omega) (by omega)]; omega), if_pos (by rw [ho]; rfl)]
      rw [bnd_some hmd]
      refine ok_f (by decide) ?_
      have h10 : iI o = (10 : Int32) := by rw [ho]; rfl
      by_cases hc : mu j = 2 ∧ P.mg ≤ l
      · have hj2 : j = 2 := by
          have := hc.1
          unfold mu at this
          split at this
          · omega
          · split at this <;> omega
        have hmf : F_M_mayFollow (iI j) (iI o) (iI l) m = some (true, m) := by
          unfold F_M_mayFollow
          rw [if_pos (by rw [hj2]; rfl), if_pos h10, hmg, if_neg (by rw [iI_lt (by omega) (by omega) (by omega) (by omega)]; omega)]
        rw [bnd_some hmf]
        refine ok_t rfl (ok_bnd ?_)
        obtain ⟨c1, c2⟩ := hyj 3 10 (-l) (by omega) (by omega) (by omega) (by omega) (by omega) (by omega) (by omega)
        rw [lt3]
        refine ok_of (handsOver_ok p0 (by omega) (by omega) (by omega) (by omega) (by omega) c1 c2) (fun _ m' hv => ok_some ⟨?_, hv.2⟩)
        rw [show twV P (four r) (V P r) p (mu j) o l v = _ by unfold twV; rw [if_neg hi, if_pos ho, if_pos hc]]
        have e : V P (r + 1) (mu 3) 10 (-l) = ses P (four r) (V P r) p 4 0 (-l) false := by
          rw [V_10 hr]
          unfold frV
          split
          · rfl
          · rw [if_neg (by decide), if_neg (by rw [mu3]; omega)]
            rfl
        rw [e] at hv
        exact hv.1
      · have hmf : F_M_mayFollow (iI j) (iI o) (iI l) m = some (false, m) := by
          unfold F_M_mayFollow
          by_cases hj2 : j = 2
          · rw [if_pos (by rw [hj2]; rfl), if_pos h10, hmg, if_pos (by rw [iI_lt (by omega) (by omega) (by omega) (by omega)]; by_cases q : P.mg ≤ l; exact absurd ⟨by rw [hj2]; rfl, q⟩ hc; omega)]
          · rw [if_neg (by rw [lt2, iI_eq (by omega) (by omega) (by omega) (by omega)]; exact hj2)]
        rw [bnd_some hmf]
        refine ok_f (by decide) (ok_some ⟨?_, Fr_rf⟩)
        rw [show twV P (four r) (V P r) p (mu j) o l v = v by unfold twV; rw [if_neg hi, if_pos ho, if_neg hc]]
        exact hv
    · have hmd : F_M_mayDeclare (iI j) (iI o) m = some (true, m) := by
        unfold F_M_mayDeclare
        rw [if_neg (by rw [lt4, iI_le (by omega) (by omega) (by omega) (by omega)]; omega), if_neg (by rw [lt10, iI_eq (by omega) (by omega) (by omega) (by omega)]; exact ho)]
      obtain ⟨j', n1, n2, n3, n4, n5⟩ := Mnext_eq (m := m) j0 (show j ≤ 3 by omega)
      rw [bnd_some hmd]
      refine ok_t rfl ?_
      rw [bnd_some n1]
      have hj' : j + 1 ≤ j' := by
        unfold mu at n2
        split at n2 <;> split at n2 <;> (try split at n2) <;> (try split at n2) <;> omega
      obtain ⟨c1, c2⟩ := hyj j' 10 (-l) hj' n3 n4 (by omega) (by omega) (by omega) (by omega)
      refine ok_bnd (ok_of (handsOver_ok p0 (by omega) n3 n4 (by omega) (by omega) c1 c2) (fun _ m' hv => ok_some ⟨?_, hv.2⟩))
      rw [show twV P (four r) (V P r) p (mu j) o l v = _ by unfold twV; rw [if_neg hi, if_neg ho]]
      unfold nx
      have n6 : (inn (mu j + 1) = 3) = (3 < j') := by rw [← n2]; exact mu_inn n3 n4
      by_cases hq : inn (mu j + 1) = 3 ∧ l < 0
      · rw [if_pos hq]
        rw [V_lead (fun p k s a b => hB.R_rng p k s a b) (by rw [n2]; exact hq.1) (show 0 < -l by omega)] at hv
        exact hv.1
      · rw [if_neg hq]
        rw [V_10 hr, n2] at hv
        exact hv.1
end MOD3
