section CHO
/-- whether the other choice is worth more in a state -/
def cho (P : OP) (p k o l : Int) : Bool := decide (p < P.n ∧ vl P (4 * four (P.n - (p + 1)).toNat) (ses P (four (P.n - (p + 1)).toNat) (V P (P.n - (p + 1)).toNat) p k (oo o) l false) < vl P (4 * four (P.n - (p + 1)).toNat) (twV P (four (P.n - (p + 1)).toNat) (V P (P.n - (p + 1)).toNat) p k o l (ses P (four (P.n - (p + 1)).toNat) (V P (P.n - (p + 1)).toNat) p k (oo o) l false)))
theorem at_eq {law : Option (List (Int × List Int))} {P : OP} {mg tx bc f dw : Int} {mk : Int64} {bl : Bool} {wd : Int} {m0 m : Mem} (hB : OB law P mg tx bc f dw mk bl wd m0) (h : OI law P mk m0 m) {p k o l : Int} (p0 : 0 ≤ p) (pn : p ≤ P.n) (k0 : 0 ≤ k) (k5 : k ≤ 5) (o0 : 0 ≤ o) (o1 : o ≤ 10) (l0 : -200 ≤ l) (l1 : l ≤ 200) : Ok (F_Od_waysAt 40 (iI p) (iI k) (iI o) (iI l) m) (fun v m' => v = pk (fb k) (V P (P.n - p).toNat k o (sg k l)) ∧ OI law P mk m0 m') := by
  have n9 := hB.gr.n9
  exact (at_od hB (P.n - p).toNat p p0 (by omega)).2 40 (by omega) k o l m h k0 k5 o0 o1 (by omega) (by omega)
theorem Tcho_ok {law : Option (List (Int × List Int))} {P : OP} {mg tx bc f dw : Int} {mk : Int64} {bl : Bool} {wd : Int} {m0 m : Mem} (hB : OB law P mg tx bc f dw mk bl wd m0) (h : OI law P mk m0 m) {p k o l : Int} (p0 : 0 ≤ p) (pn : p ≤ P.n) (k0 : 0 ≤ k) (k5 : k ≤ 5) (o0 : 0 ≤ o) (o1 : o ≤ 10) (l0 : -200 ≤ l) (l1 : l ≤ 200) : Ok (F_Od_chooses (iI p) (iI k) (iI o) (iI l) m) (fun b m' => b = cho P p k o (sg k l) ∧ OI law P mk m0 m') := by
  have n9 := hB.gr.n9
  have hcn : gI m 3 0 = iI P.n := (h.1.I (by decide) (by decide) (by decide) (by decide)).trans hB.gr.cn
  have hcm : gI m 3 4 = iI mg := (h.1.I (by decide) (by decide) (by decide) (by decide)).trans hB.gr.cmg
  unfold F_Od_chooses
  by_cases hp : p < P.n
  · refine ok_f (by rw [hcn, iI_le (by omega) (by omega) (by omega) (by omega)]; omega) ?_
    rw [bnd_some (otherChoice_eq hcm hB.gr.mg0 hB.gr.mg9 k0 k5 o0 o1 (by omega) (by omega))]
    obtain ⟨r, hr⟩ : ∃ r : Nat, r = (P.n - (p + 1)).toNat := ⟨_, rfl⟩
    have hr' : P.n - (p + 1) = (r : Int) := by omega
    have hal := four_le r (by omega)
    have hal4 := four_le (r + 1) (by omega)
    have ha0 := four_pos r
    have hfo : four (P.n - p).toNat = 4 * four r := by rw [show (P.n - p).toNat = r + 1 by omega]; rfl
    have hcho : cho P p k o (sg k l) = decide (vl P (4 * four r) (ses P (four r) (V P r) p k (oo o) (sg k l) false) < vl P (4 * four r) (twV P (four r) (V P r) p k o (sg k l) (ses P (four r) (V P r) p k (oo o) (sg k l) false))) := by
      unfold cho
      rw [← hr]
      simp only [hp, true_and]
    have hmg : P.mg = mg := hB.P_mg
    have htw : oc mg k o l ≠ 0 → twV P (four r) (V P r) p k o (sg k l) (ses P (four r) (V P r) p k (oo o) (sg k l) false) = ow P (four r) (V P r) p k o (sg k l) := by
      intro hne
      unfold twV ow
      by_cases h3 : inn k = 3
      · rw [if_pos h3, if_pos h3]
      · rw [if_neg h3, if_neg h3]
        by_cases h4 : o = 10
        · rw [if_pos h4, if_pos h4]
          have h5 : k = 2 ∧ P.mg ≤ sg k l := by
            unfold oc at hne
            rw [if_neg h3, if_pos h4] at hne
            by_cases q : k = 2 ∧ mg ≤ l
            · refine ⟨q.1, ?_⟩
              rw [hmg, q.1]
              exact q.2
            · rw [if_neg q] at hne
              exact absurd rfl hne
          rw [if_pos h5]
        · rw [if_neg h4, if_neg h4]
    have htw0 : oc mg k o l = 0 → twV P (four r) (V P r) p k o (sg k l) (ses P (four r) (V P r) p k (oo o) (sg k l) false) = ses P (four r) (V P r) p k (oo o) (sg k l) false := by
      intro he
      have h3 : ¬ inn k = 3 := fun q => by unfold oc at he; rw [if_pos q] at he; exact absurd he (by decide)
      have h4 : o = 10 := by
        by_cases q : o = 10
        · exact q
        · unfold oc at he; rw [if_neg h3, if_neg q] at he; exact absurd he (by decide)
      have h5 : ¬ (k = 2 ∧ P.mg ≤ sg k l) := by
        intro q
        unfold oc at he
        rw [if_neg h3, if_pos h4, if_pos ⟨q.1, by have q2 := q.2; rw [hmg, q.1] at q2; exact q2⟩] at he
        exact absurd he (by decide)
      unfold twV
      rw [if_neg h3, if_pos h4, if_neg h5]
    by_cases h0 : oc mg k o l = 0
    · refine ok_t (by rw [h0]; rfl) (ok_some ⟨?_, h⟩)
      rw [hcho, htw0 h0, decide_eq_false (by omega)]
    · have hor : oc mg k o l = 0 ∨ oc mg k o l = 1 ∨ oc mg k o l = 2 ∨ oc mg k o l = 3 := by
        unfold oc
        split
        · simp
        · split
          · split <;> simp
          · simp
      refine ok_f (by rw [lt0, iI_eq (by omega) (by omega) (by omega) (by omega)]; exact h0) ?_
      rw [bnd_some (firstBats_eq k0 k5)]
      have hrc : RC law P mk m0 (F_Od_waysAt 40) (V P r) (p + 1) (200 + 9 * p + 9) := by
        have := (at_od hB r (p + 1) (by omega) (by omega)).2 40 (by omega)
        rw [show (200 + 9 * (p + 1) : Int) = 200 + 9 * p + 9 by omega] at this
        exact this
      have hfr : o ≠ 10 → ∀ k l m, OI law P mk m0 m → 0 ≤ k → k ≤ 5 → -(200 + 9 * p) ≤ l → l ≤ 200 + 9 * p → Ok (F_Od_waysAt 40 (iI p) (iI k) (iI 10) (iI l) m) (fun v m' => v = pk (fb k) (frV P (four (P.n - (p + 1)).toNat) (V P r) p k (sg k l)) ∧ OI law P mk m0 m') := by
        intro _ k l m hm a b c d
        rw [← hr]
        refine ok_of ((at_od hB (r + 1) p p0 (by omega)).1 40 (by omega) k l m hm a b c d) (fun v m' hv => ⟨?_, hv.2⟩)
        rw [hv.1, V_10 hr']
      refine ok_bnd (ok_of (going_od hB h p0 hp (show 200 + 9 * p < 900 by omega) (by omega) (by omega) k0 k5 o0 o1 hrc) (fun v m1 hv => ?_))
      obtain ⟨rfl, h1⟩ := hv
      rw [← hr]
      have hgo : vOK (ses P (four r) (V P r) p k (oo o) (sg k l) false) (4 * four r) := ses_ok (by omega) (V_ok r)
      have hd1 : gI m1 2 5 = iI dw := (h1.1.I (by decide) (by decide) (by decide) (by decide)).trans hB.hd
      have hc1 : gI m1 3 0 = iI P.n := (h1.1.I (by decide) (by decide) (by decide) (by decide)).trans hB.gr.cn
      have e1 : ∀ v : Int × Int, 100 * v.1 + dw * (four (P.n - p).toNat - v.1 - v.2) = vl P (4 * four r) v := by
        intro v
        unfold vl
        rw [hB.P_dw, hfo]
      rw [hd1, bnd_some (valueOf_eq hc1 n9 p0 (by omega) _ _ hgo (by simp only [four] at hal4; omega) hB.d0 hB.d1), if_pos rfl, e1]
      refine ok_bnd (ok_of (otherwise_od hB h1 p0 hp (show 200 + 9 * p < 900 by omega) (by omega) (by omega) k0 k5 o0 o1 hrc h0 hfr) (fun v m2 hv => ?_))
      obtain ⟨rfl, h2⟩ := hv
      rw [← hr]
      have hd2 : gI m2 2 5 = iI dw := (h2.1.I (by decide) (by decide) (by decide) (by decide)).trans hB.hd
      have hc2 : gI m2 3 0 = iI P.n := (h2.1.I (by decide) (by decide) (by decide) (by decide)).trans hB.gr.cn
      have htv : vOK (twV P (four r) (V P r) p k o (sg k l) (ses P (four r) (V P r) p k (oo o) (sg k l) false)) (4 * four r) := twV_ok (by omega) (V_ok r) hgo
      rw [htw h0] at htv
      rw [hd2, bnd_some (valueOf_eq hc2 n9 p0 (by omega) _ _ htv (by simp only [four] at hal4; omega) hB.d0 hB.d1), if_pos rfl, e1]
      have v1 := vl_rng hgo (by rw [hB.P_dw]; exact hB.d0) (by rw [hB.P_dw]; exact hB.d1)
      have v2 := vl_rng htv (by rw [hB.P_dw]; exact hB.d0) (by rw [hB.P_dw]; exact hB.d1)
      simp only [four] at hal4
      rw [hcho, htw h0]
      by_cases hg : vl P (4 * four r) (ses P (four r) (V P r) p k (oo o) (sg k l) false) < vl P (4 * four r) (ow P (four r) (V P r) p k o (sg k l))
      · exact ok_f (by rw [iL_le (by omega) (by omega) (by omega) (by omega)]; omega) (ok_some ⟨(decide_eq_true hg).symm, h2⟩)
      · exact ok_t (by rw [iL_le (by omega) (by omega) (by omega) (by omega)]; omega) (ok_some ⟨(decide_eq_false hg).symm, h2⟩)
  · refine ok_t (by rw [hcn, iI_le (by omega) (by omega) (by omega) (by omega)]; omega) (ok_some ⟨?_, h⟩)
    unfold cho
    rw [decide_eq_false (fun q => hp q.1)]
theorem TchoT_ok {law : Option (List (Int × List Int))} {P : OP} {mg tx bc f dw : Int} {mk : Int64} {bl : Bool} {wd : Int} {m0 m : Mem} (hB : OB law P mg tx bc f dw mk bl wd m0) (h : OI law P mk m0 m) {p k o l : Int} (p0 : 0 ≤ p) (pn : p ≤ P.n) (k0 : 0 ≤ k) (k5 : k ≤ 5) (o0 : 0 ≤ o) (o1 : o ≤ 10) (l0 : -200 ≤ l) (l1 : l ≤ 200) : Ok (F_Od_choosesTold (iI p) (iI k) (iI l) (iI o) m) (fun b m' => b = cho P p k o l ∧ OI law P mk m0 m') := by
  unfold F_Od_choosesTold
  rw [bnd_some (firstBats_eq k0 k5)]
  refine ok_ltk (fun kk hkk => ?_)
  have hx : ∀ l', -200 ≤ l' → l' ≤ 200 → sg k l' = l → Ok (kk (iI l') m) (fun b m' => b = cho P p k o l ∧ OI law P mk m0 m') := by
    intro l' a b e
    rw [hkk]
    refine ok_bnd (ok_of (Tcho_ok hB h p0 pn k0 k5 o0 o1 a b) (fun v m' hv => ok_some ⟨?_, hv.2⟩))
    rw [hv.1, e]
  cases hf : fb k
  · refine ok_f (by decide) ?_
    rw [iI_neg]
    exact hx (-l) (by omega) (by omega) (by unfold sg; rw [hf, if_neg (by decide)]; omega)
  · refine ok_t rfl ?_
    exact hx l (by omega) (by omega) (by unfold sg; rw [hf, if_pos rfl])
/-- the reference's count from a told state -/
theorem IV.MB {B : Nat} {law : Option (List (Int × List Int))} {n mg wd tx bc : Int} {t : Mt} {m : Mem} (h : IV B law n mg wd tx bc t m) {f dw : Int} {bl : Bool} (f0 : 0 ≤ f) (f1 : f ≤ 1) (d0 : 0 ≤ dw) (d1 : dw ≤ 100) (hd : gI m 78 21 = iI dw) (hb : gZ m 78 22 = bl) {w : Nat → Int32} (hw : w = gI m 79) : MB law (opOf w law n mg f dw bl) mg tx bc f dw bl wd (sI m 78 20 (iI f)) := by
  subst hw
  refine MB.mk ⟨?_, ?_, f0, f1, d0, d1, ?_, ?_, ?_⟩
  · rw [opOf_n]
    exact GR_told h.gr (fun o ho j => by rw [gI_sI, if_neg (fun q => by have := q.1; omega)]) (fun j _ => by rw [gI_sI, if_neg (fun q => absurd q.1 (by decide))])
  · rw [opOf_n]; rfl
  · rw [gI_sI, if_pos ⟨rfl, rfl⟩]
  · rw [gI_sI, if_neg (fun q => absurd q.2 (by decide))]; exact hd
  · exact hb
theorem Mscr {B : Nat} {law : Option (List (Int × List Int))} {n mg wd tx bc : Int} {t : Mt} {m m' : Mem} (h : IV B law n mg wd tx bc t m) (hf : Fr [85, 86, 87, 88] [(78, 0), (78, 20), (78, 21), (78, 23), (78, 24)] m m') : IV B law n mg wd tx bc t m' :=
  h.keep0 (Fr_wk hf (by simp [scrA]) (by simp [scrL])) ((hf 78 22 (by simp) (by simp)).2.2.trans h.bli) (fun j => hf.gI (by simp) (by simp)) (fun j => hf.gL (by simp) (by simp)) (fun j => hf 2 j (by simp) (by simp))
theorem countsFrom_ok {B : Nat} {law : Option (List (Int × List Int))} {n mg wd tx bc : Int} {t : Mt} {m : Mem} (h : IV B law n mg wd tx bc t m) {p l : Int} (p0 : 0 ≤ p) (pn : p ≤ n) (l0 : -81 ≤ l) (l1 : l ≤ 81) {w : Nat → Int32} (hw : w = gI m 79) : ∃ m0 more, MB law (opOf w law n mg 0 wd false) mg tx bc 0 wd false wd m0 ∧ MO (opOf w law n mg 0 wd false) more ∧ Ok (F_M_countsFrom (iI p) (iI l) m) (fun _ m' => LaSt law (opOf w law n mg 0 wd false) 0 m0 p p (if l < 0 then -l else l) more m' ∧ Fr [85, 86, 87, 88] [(78, 20), (78, 21), (78, 23), (78, 24)] m m') := by
  have n9 := h.gr.n9
  have ht : IV B law n mg wd tx bc t (sI m 78 21 (iI wd)) := Mscr h (Fr_sI rfl Fr_rf (by simp))
  have hB := ht.MB (f := 0) (dw := wd) (bl := false) (w := w) (by omega) (by omega) h.gr.dw0 h.gr.dw9 (by rw [gI_sI, if_pos ⟨rfl, rfl⟩]) h.bli (by rw [hw]; funext j; rw [gI_sI, if_neg (fun q => absurd q.1 (by decide))])
  obtain ⟨more, hmo, hla, -⟩ := layers_ok hB (from' := p) (lead := if l < 0 then -l else l) p0 (by rw [opOf_n]; exact pn) (by split <;> omega) (by split <;> omega) (by rw [opOf_n]; split <;> omega)
  refine ⟨_, more, hB, hmo, ?_⟩
  suffices hh : Ok (F_M_countsFrom (iI p) (iI l) m) (fun _ m' => LaSt law (opOf w law n mg 0 wd false) 0 (sI (sI m 78 21 (iI wd)) 78 20 (iI 0)) p p (if l < 0 then -l else l) more m') by
    obtain ⟨a, m', e1, e2⟩ := hh
    exact ⟨a, m', e1, e2, fr_M_countsFrom _ _ _ _ _ e1⟩
  unfold F_M_countsFrom
  rw [h.gr.wdw]
  refine ok_lt ?_
  have hab : abI (iI l) = iI (if l < 0 then -l else l) := by
    unfold abI
    by_cases hl : l < 0
    · rw [if_pos hl, if_neg (by rw [lt0, iI_le (by omega) (by omega) (by omega) (by omega)]; omega), lt0, iI_sub, Int.zero_sub]
    · rw [if_neg hl, if_pos (by rw [lt0, iI_le (by omega) (by omega) (by omega) (by omega)]; omega)]
  rw [hab, lt0]
  refine ok_bnd (ok_of hla (fun _ m2 hv => ?_))
  unfold F_M_size
  rw [bnd_e]
  have hwn : gI m2 79 0 = iI n := by
    have := (hv.1.I (o := 79) (j := 0) (by simp) (by simp)).trans hB.gr.wn
    rw [opOf_n] at this
    exact this
  rw [hwn]
  by_cases hp : n ≤ p
  · exact ok_t (by rw [iI_le (by omega) (by omega) (by omega) (by omega)]; exact hp) (ok_some hv)
  · refine ok_f (by rw [iI_le (by omega) (by omega) (by omega) (by omega)]; exact hp) (ok_bnd (ok_of (lays_ok hB hv.1 p0 (by omega)) (fun _ m3 hv3 => ok_some ⟨Fr_tr hv.1 hv3.2 (by simp) (by simp), fun _ => hv3.1, fun q hq hqn => ?_⟩)))
    intro j o l' a b c d e g
    rw [hv3.2.gI (by simp) (by simp), hv3.2.gI (by simp) (by simp)]
    exact hv.2.2 q hq hqn j o l' a b c d e g
end CHO
