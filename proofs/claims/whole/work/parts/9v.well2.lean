section WELLB
theorem well_op {B : Nat} {law : Option (List (Int × List Int))} {n mg wd tx bc : Int} {t : Mt} {m : Mem} (h : IV B law n mg wd tx bc t m) (hB6 : B ≤ 800000) : Ok (F_T_well m) (fun rT m1 => Ok (F_M_well m1) (fun rM m2 => rT = rM ∧ Inv (B + 4) m2)) := by
  have r := fun a b => tvZ_rng (w := gI m 79) (law := law) (n := n) (mg := mg) (wd := wd) (s := a) (f := b) h.gr.n9 h.gr.dw0 h.gr.dw9
  have bc0 := h.gr.bc0
  have bc9 := h.gr.bc9
  obtain ⟨_, m1, e1, rfl, i1, w1⟩ := Tbetter_ok h (by omega) (s := 0) (by omega) (by omega)
  obtain ⟨_, m2, e2, rfl, i2, w2⟩ := Tbetter_ok i1 (by omega) (s := 1) (by omega) (by omega)
  rw [w1] at e2 w2
  obtain ⟨d0, hd0⟩ : ∃ d, d = dfZ (gI m 79) law n mg wd 0 := ⟨_, rfl⟩
  obtain ⟨d1, hd1⟩ : ∃ d, d = dfZ (gI m 79) law n mg wd 1 := ⟨_, rfl⟩
  have hr0 : -60000000 ≤ d0 ∧ d0 ≤ 60000000 := by rw [hd0]; unfold dfZ; have := r 0 0; have := r 0 (1 - 0); omega
  have hr1 : -60000000 ≤ d1 ∧ d1 ≤ 60000000 := by rw [hd1]; unfold dfZ; have := r 1 1; have := r 1 (1 - 1); omega
  rw [← hd0] at e1
  rw [← hd1] at e2
  have e3 := Twell_loop (m := m2) (d0 := d0) (d1 := d1) i2.gr.cbc bc9 i2.gr.bo bc.toNat 0 1000000 (by omega) (by omega)
  have eT : F_T_well m = some (iI (wlN d0 d1 (gI m2 79) bc.toNat : Nat), m2) := by
    unfold F_T_well
    rw [lt0, bnd_some e1, lt1, bnd_some e2]
    exact e3
  have st : ∀ (s : Int) (d : Int) (mm : Mem) (nf : Nat) (kk : Mem → Option (Int32 × Mem)) (Q : Int32 → Mem → Prop), 0 ≤ s → s ≤ 1 → d = dfZ (gI m 79) law n mg wd s → IV (B + 2 + 2) law n mg wd tx bc t mm → gI m 79 = gI mm 79 → (∀ m', IV (B + 2 + 2) law n mg wd tx bc t m' → gI m 79 = gI m' 79 → gL m' 89 s.toNat = iL d → (∀ j, j ≠ s.toNat → gL m' 89 j = gL mm 89 j) → Ok (F_M_well_L7 kk nf (iI (s + 1)) m') Q) → Ok (F_M_well_L7 kk (nf + 1) (iI s) mm) Q := by
    intro s d mm nf kk Q s0 s1 hd hi hw hq
    obtain ⟨_, ma, ea, rfl, ia, wa, -⟩ := Mtoss_ok hi true (s := s) s0 s1 hw
    obtain ⟨_, mb, eb, rfl, ib, wb, -⟩ := Mtoss_ok ia false (s := s) s0 s1 wa
    have fa := fr_M_tossWorth _ _ _ _ _ ea
    have fb' := fr_M_tossWorth _ _ _ _ _ eb
    rw [if_pos (show true = true from rfl)] at ea
    rw [if_neg (show ¬ false = true by decide)] at eb
    rw [F_M_well_L7]
    refine ok_f (by rw [lt2, iI_le (by omega) (by omega) (by omega) (by omega)]; omega) ?_
    rw [bnd_some ea, bnd_some eb, ckB_t (iI_inb s0 (by omega) (by omega)), lt_def, lt_def, iI_idx (by omega) (by omega), iL_sub, lt1, iI_add]
    have hdf : tvZ (gI m 79) law n mg wd s s - tvZ (gI m 79) law n mg wd s (1 - s) = d := hd.symm
    rw [hdf]
    have f9 : Fr scrA scrL mb (sL mb 89 s.toNat (iL d)) := Fr_sL rfl Fr_rf (by simp [scrA])
    refine hq _ (ib.keep0 f9 ib.bli (fun j => rfl) (fun j => ?_) (fun j => ⟨rfl, ?_, rfl⟩)) wb ?_ (fun j hj => ?_)
    · rw [gL_sL, if_neg (fun q => absurd q.1 (by decide))]
    · rw [gL_sL, if_neg (fun q => absurd q.1 (by decide))]
    · rw [gL_sL, if_pos ⟨rfl, rfl⟩]
    · rw [gL_sL, if_neg (fun q => hj q.2), fb'.gL (by simp) (by simp), fa.gL (by simp) (by simp)]
  refine ok_e eT ?_
  unfold F_M_well
  refine ok_lt (ok_ltk (fun kk hkk => ?_))
  have e0 : F_M_well_L7 kk 1000000 (0 : Int32) (sI m2 78 0 0) = F_M_well_L7 kk (999997 + 1 + 1 + 1) (iI 0) (sI m2 78 0 0) := rfl
  rw [e0]
  refine st 0 d0 _ _ _ _ (by omega) (by omega) hd0 (i2.thr thr_s) (by rw [← w2]; rfl) (fun ma ia wa g0 _ => ?_)
  refine st (0 + 1) d1 _ _ _ _ (by omega) (by omega) hd1 ia wa (fun mb ib wb g1 gk => ?_)
  rw [F_M_well_L7]
  refine ok_t (by decide) ?_
  rw [hkk]
  have e5 := Mwell_loop (m := mb) (d0 := d0) (d1 := d1) ib.gr.wbc bc9 (fun j hj => (ib.gr.bor j hj).1) ((gk 0 (by decide)).trans g0) g1 hr0.1 hr0.2 hr1.1 hr1.2 bc.toNat 0 1000000 (by omega) (by omega)
  refine ok_e e5 ⟨?_, ib.inv⟩
  rw [w2, wb]
end WELLB
