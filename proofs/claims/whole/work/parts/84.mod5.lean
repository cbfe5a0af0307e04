section MOD5
/-- cells of a layer that stand: kinds behind j, spots ahead of o, leads ahead of l -/
def CE (P : OP) (m : Mem) (p : Int) (r : Nat) (Lp j o l : Int) : Prop := ∀ j' o' l' : Int, 0 ≤ j' → j' ≤ 5 → 0 ≤ o' → o' ≤ 10 → -Lp ≤ l' → l' ≤ Lp → (j < j' ∨ (j' = j ∧ (o' < o ∨ (o' = o ∧ l' < l)))) → gI m 86 (cx p j' o' l') = iI (V P r (mu j') o' l').1 ∧ gI m 87 (cx p j' o' l') = iI (V P r (mu j') o' l').2
def II (law : Option (List (Int × List Int))) (P : OP) (f : Int) (m0 : Mem) (p : Int) (r : Nat) (Lp L j o l : Int) (m : Mem) : Prop := SameM m0 m ∧ LV law f p m ∧ (0 < r → LY P m (p + 1) r L) ∧ CE P m p (r + 1) Lp j o l
theorem LV.cg {law : Option (List (Int × List Int))} {f p : Int} {m m' : Mem} (h : LV law f p m) (h1 : ∀ i, gI m' 88 i = gI m 88 i) (h2 : ∀ i, gI m' 79 i = gI m 79 i) : LV law f p m' := by
  intro j a b
  rw [h1, show gI m' 79 = gI m 79 by funext i; exact h2 i]
  exact h j a b
theorem L71_ok {law : Option (List (Int × List Int))} {P : OP} {mg tx bc f dw : Int} {bl : Bool} {wd : Int} {m0 : Mem} (hB : MB law P mg tx bc f dw bl wd m0) {p j o L Lp more : Int} {r : Nat} (p0 : 0 ≤ p) (hr : P.n - (p + 1) = (r : Int)) (j0 : 0 ≤ j) (j5 : j ≤ 5) (o0 : 0 ≤ o) (o1 : o ≤ 10) (hLp0 : 0 ≤ Lp) (hLp : Lp + more ≤ L) (hmo : MO P more) (hL : L ≤ 162) (kk : Mem → Option (Unit × Mem)) (Q : Unit → Mem → Prop) (hk : ∀ m, II law P f m0 p r Lp L j o (Lp + 1) m → Ok (kk m) Q) : ∀ (d : Nat) (l : Int) (m : Mem) (nf : Nat), l = Lp + 1 - d → -Lp ≤ l → d < nf → II law P f m0 p r Lp L j o l m → Ok (F_M_layers_L71 (iI p) (iI Lp) (iI j) (iI o) kk nf (iI l) m) Q := by
  have hn9 := hB.gr.n9
  have hm0 := hmo.1
  intro d
  induction d with
  | zero =>
    intro l m nf hl l0 hnf hI
    obtain ⟨nf, rfl⟩ : ∃ x, nf = x + 1 := ⟨nf - 1, by omega⟩
    rw [F_M_layers_L71]
    have hl' : l = Lp + 1 := by omega
    subst hl'
    refine ok_t ?_ (hk m hI)
    rw [iI_lt (by omega) (by omega) (by omega) (by omega)]; omega
  | succ d ih =>
    intro l m nf hl l0 hnf hI
    obtain ⟨nf, rfl⟩ : ∃ x, nf = x + 1 := ⟨nf - 1, by omega⟩
    obtain ⟨q1, q2, q3, q4⟩ := hI
    rw [F_M_layers_L71]
    refine ok_f ?_ (ok_bnd ?_)
    · rw [iI_lt (by omega) (by omega) (by omega) (by omega)]; omega
    have hyj : LYj P m p (r + 1) Lp (j + 1) := fun j' o' l' a b c d e g i => q4 j' o' l' b c d e g i (Or.inl (by omega))
    refine ok_of (counts_ok hB q1 q2 p0 hr j0 j5 o0 o1 q3 hyj l0 (by omega) hLp hmo hL) (fun _ m1 hv => ?_)
    obtain ⟨g1, f1⟩ := hv
    have hc := fun m => cell_eq (m := m) (q := p) (j := j) (o := o) (l := l) p0 (by omega) j0 j5 o0 o1 (by omega) (by omega)
    have hx := cx_lt (q := p) (j := j) (o := o) (l := l) j0 j5 o0 o1 (by omega) (by omega)
    rw [bnd_some (hc m1), ckB_t (iI_inb (by omega) (by omega) (by omega)), lt_def, bnd_some (hc _), ckB_t (iI_inb (by omega) (by omega) (by omega)), lt_def, lt_def, iI_idx (by omega) (by omega), Int.toNat_natCast, lt1, iI_add]
    refine ih (l + 1) _ nf (by omega) (by omega) (by omega) ?_
    have r1 := q1.tr f1
    refine ⟨Fr_sI rfl (Fr_sI rfl r1 (by simp)) (by simp), ?_, ?_, ?_⟩
    · exact LV.cg (q2.fr f1) (fun i => by rw [gI_sI, if_neg (fun q => absurd q.1 (by decide)), gI_sI, if_neg (fun q => absurd q.1 (by decide))]) (fun i => by rw [gI_sI, if_neg (fun q => absurd q.1 (by decide)), gI_sI, if_neg (fun q => absurd q.1 (by decide))])
    · intro hr0 j' o' l' a b c d e g
      have hne : ¬ cx (p + 1) j' o' l' = cx p j o l := by
        intro hq
        have := (cx_inj a b c d (by omega) (by omega) j0 j5 o0 o1 (by omega) (by omega) hq).1
        omega
      rw [gI_sI, if_neg (fun q => absurd q.1 (by decide)), gI_sI, if_neg (fun q => hne q.2), gI_sI, if_neg (fun q => hne q.2), gI_sI, if_neg (fun q => absurd q.1 (by decide))]
      exact (q3 hr0).fr f1 j' o' l' a b c d e g
    · intro j' o' l' a b c d e g hh
      by_cases hq : cx p j' o' l' = cx p j o l
      · obtain ⟨-, rfl, rfl, rfl⟩ := cx_inj a b c d (by omega) (by omega) j0 j5 o0 o1 (by omega) (by omega) hq
        rw [gI_sI, if_neg (fun q => absurd q.1 (by decide)), gI_sI, if_pos ⟨rfl, rfl⟩, gI_sI, if_pos ⟨rfl, rfl⟩]
        exact g1
      · rw [gI_sI, if_neg (fun q => absurd q.1 (by decide)), gI_sI, if_neg (fun q => hq q.2), gI_sI, if_neg (fun q => hq q.2), gI_sI, if_neg (fun q => absurd q.1 (by decide))]
        rw [f1.gI (by decide) (by simp), f1.gI (by decide) (by simp)]
        refine q4 j' o' l' a b c d e g ?_
        rcases hh with h1 | ⟨h1, h2 | ⟨h2, h3⟩⟩
        · exact Or.inl h1
        · exact Or.inr ⟨h1, Or.inl h2⟩
        · refine Or.inr ⟨h1, Or.inr ⟨h2, ?_⟩⟩
          by_cases h4 : l' = l
          · subst h1; subst h2; subst h4
            exact absurd rfl hq
          · omega
theorem L59_ok {law : Option (List (Int × List Int))} {P : OP} {mg tx bc f dw : Int} {bl : Bool} {wd : Int} {m0 : Mem} (hB : MB law P mg tx bc f dw bl wd m0) {p j L Lp more : Int} {r : Nat} (p0 : 0 ≤ p) (hr : P.n - (p + 1) = (r : Int)) (j0 : 0 ≤ j) (j5 : j ≤ 5) (hLp0 : 0 ≤ Lp) (hLp : Lp + more ≤ L) (hmo : MO P more) (hL : L ≤ 162) (kk : Mem → Option (Unit × Mem)) (Q : Unit → Mem → Prop) (hk : ∀ m, II law P f m0 p r Lp L j 11 (-Lp) m → Ok (kk m) Q) : ∀ (d : Nat) (o : Int) (m : Mem) (nf : Nat), o = 11 - d → 0 ≤ o → d < nf → II law P f m0 p r Lp L j o (-Lp) m → Ok (F_M_layers_L59 (iI p) (iI Lp) (iI j) kk nf (iI o) m) Q := by
  have hm0 := hmo.1
  intro d
  induction d with
  | zero =>
    intro o m nf ho o0 hnf hI
    obtain ⟨nf, rfl⟩ : ∃ x, nf = x + 1 := ⟨nf - 1, by omega⟩
    rw [F_M_layers_L59]
    have ho' : o = 11 := by omega
    subst ho'
    exact ok_t (by decide) (hk m hI)
  | succ d ih =>
    intro o m nf ho o0 hnf hI
    obtain ⟨nf, rfl⟩ : ∃ x, nf = x + 1 := ⟨nf - 1, by omega⟩
    rw [F_M_layers_L59]
    refine ok_f ?_ (ok_lt (ok_ltk (fun k hk' => ?_)))
    · rw [lt10, iI_lt (by omega) (by omega) (by omega) (by omega)]; omega
    rw [iI_neg]
    refine L71_ok hB p0 hr j0 j5 o0 (by omega) hLp0 hLp hmo hL k Q (fun m1 h1 => ?_) (2 * Lp + 1).toNat (-Lp) m 1000000 (by omega) (by omega) (by omega) hI
    rw [hk']
    refine ok_lt ?_
    rw [lt1, iI_add]
    refine ih (o + 1) m1 nf (by omega) (by omega) (by omega) ?_
    obtain ⟨q1, q2, q3, q4⟩ := h1
    refine ⟨q1, q2, q3, fun j' o' l' a b c d e g hh => q4 j' o' l' a b c d e g ?_⟩
    omega
theorem L51_ok {law : Option (List (Int × List Int))} {P : OP} {mg tx bc f dw : Int} {bl : Bool} {wd : Int} {m0 : Mem} (hB : MB law P mg tx bc f dw bl wd m0) {p L Lp more : Int} {r : Nat} (p0 : 0 ≤ p) (hr : P.n - (p + 1) = (r : Int)) (hLp0 : 0 ≤ Lp) (hLp : Lp + more ≤ L) (hmo : MO P more) (hL : L ≤ 162) (kk : Mem → Option (Unit × Mem)) (Q : Unit → Mem → Prop) (hk : ∀ m, II law P f m0 p r Lp L (-1) 0 (-Lp) m → Ok (kk m) Q) : ∀ (d : Nat) (j : Int) (m : Mem) (nf : Nat), j = (d : Int) - 1 → j ≤ 5 → d < nf → II law P f m0 p r Lp L j 0 (-Lp) m → Ok (F_M_layers_L51 (iI p) (iI Lp) kk nf (iI j) m) Q := by
  intro d
  induction d with
  | zero =>
    intro j m nf hj j5 hnf hI
    obtain ⟨nf, rfl⟩ : ∃ x, nf = x + 1 := ⟨nf - 1, by omega⟩
    rw [F_M_layers_L51]
    have hj' : j = -1 := by omega
    subst hj'
    exact ok_t (by decide) (hk m hI)
  | succ d ih =>
    intro j m nf hj j5 hnf hI
    obtain ⟨nf, rfl⟩ : ∃ x, nf = x + 1 := ⟨nf - 1, by omega⟩
    rw [F_M_layers_L51]
    refine ok_f ?_ (ok_ltk (fun k hk' => ?_))
    · rw [lt0, iI_lt (by omega) (by omega) (by omega) (by omega)]; omega
    rw [lt0]
    refine L59_ok hB p0 hr (show 0 ≤ j by omega) j5 hLp0 hLp hmo hL k Q (fun m1 h1 => ?_) 11 0 m 1000000 (by omega) (by omega) (by omega) hI
    rw [hk']
    refine ok_lt ?_
    rw [ltm1, iI_add, show j + -1 = j - 1 by omega]
    refine ih (j - 1) m1 nf (by omega) (by omega) (by omega) ?_
    obtain ⟨q1, q2, q3, q4⟩ := h1
    refine ⟨q1, q2, q3, fun j' o' l' a b c d e g hh => q4 j' o' l' a b c d e g ?_⟩
    omega
end MOD5
