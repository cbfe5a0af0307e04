section FEED
/-- the tape changes and what is left behind -/
theorem IV.tape {B : Nat} {law : Option (List (Int × List Int))} {n mg wd tx bc : Int} {t : Mt} {m m' : Mem} (h : IV B law n mg wd tx bc t m) (hf : Fr [1, 83, 84, 62, 63] [(0, 1), (78, 0), (78, 8), (78, 9), (78, 10)] m m') (ht : ITape m') : IV B law n mg wd tx bc t m' := by
  have hk : ∀ o, o ≠ 1 → o ≠ 83 → o ≠ 84 → o ≠ 62 → o ≠ 63 → o ≠ 0 → o ≠ 78 → ∀ j, gI m' o j = gI m o j ∧ gL m' o j = gL m o j ∧ gZ m' o j = gZ m o j := fun o a b c d e f g j => hf o j (by simp; omega) (by simp; omega)
  have hk2 : ∀ o, (2 ≤ o ∧ o ≤ 61) ∨ (64 ≤ o ∧ o ≤ 77) ∨ (79 ≤ o ∧ o ≤ 82) ∨ 85 ≤ o → ∀ j, gI m' o j = gI m o j ∧ gL m' o j = gL m o j ∧ gZ m' o j = gZ m o j := fun o ho j => hk o (by omega) (by omega) (by omega) (by omega) (by omega) (by omega) (by omega) j
  have hw : gI m' 79 = gI m 79 := by funext j; exact (hk2 79 (by omega) j).1
  refine IV.mk ⟨ht, ?_, ?_, ?_, ?_, ?_, ?_, ?_, h.mo, ?_, ?_⟩
  · rw [hf.gI (o := 0) (j := 2) (by simp) (by simp), hf.gI (o := 78) (j := 13) (by simp) (by simp)]
    exact h.fa
  · rw [hf.gZ (o := 78) (j := 22) (by simp) (by simp)]
    exact h.bli
  · refine h.im.cg (hf.gZ (by simp) (by simp)) (hf.gZ (by simp) (by simp)) (fun o ho j => ?_)
    have := hk2 o (by omega) j
    exact ⟨this.1, this.2.2⟩
  · exact GR_told h.gr (fun o ho j => (hk2 o (by omega) j).1) (fun j _ => by rw [hw])
  · exact h.lv.cg2 (fun j => (hk2 14 (by omega) j).1) (by rw [hw]) (by rw [hw]) (fun j _ _ => by rw [hw])
  · exact h.cm.cg (fun j => (hk2 16 (by omega) j).1) (fun j => (hk2 17 (by omega) j).1) (fun j => (hk2 16 (by omega) j).2.2)
  · exact h.wm.to (fun j => by rw [hw])
  · exact h.pa.cg (fun j => (hk2 20 (by omega) j).1) (hf.gI (by simp) (by simp)) (fun o a b j => ⟨(hk2 o (by omega) j).1, (hk2 o (by omega) j).2.2⟩) (fun j => (hk2 82 (by omega) j).1) (fun j _ => by rw [hw])
  · exact h.od.cg h.gr.la.okl (fun j _ => by rw [hw]) (fun j => (hk2 15 (by omega) j).2.1) (fun j => hk2 2 (by omega) j)
theorem feed_op {B : Nat} {law : Option (List (Int × List Int))} {n mg wd tx bc : Int} {t : Mt} {m : Mem} (h : IV B law n mg wd tx bc t m) (a b c d e : Int32) : Ok (F_T_feed a b c d e m) (fun rT m1 => Ok (F_M_feed a b c d e m1) (fun rM m2 => rT = rM ∧ Inv B m2)) := by
  obtain ⟨r, m1, m2, e1, e2, ht⟩ := feed_ok a b c d e m h.tp
  have f1 := fr_T_feed _ _ _ _ _ _ _ _ e1
  have f2 := fr_M_feed _ _ _ _ _ _ _ _ e2
  exact ok_e e1 (ok_e e2 ⟨rfl, (h.tape (Fr_tr (Fr_wk f1 (by simp) (by simp)) f2 (by simp) (by simp)) ht).inv⟩)
theorem end_op {B : Nat} {law : Option (List (Int × List Int))} {n mg wd tx bc : Int} {t : Mt} {m : Mem} (h : IV B law n mg wd tx bc t m) (a : Int32) : Ok (F_T_end a m) (fun rT m1 => Ok (F_M_end a m1) (fun rM m2 => rT = rM ∧ Inv B m2)) := by
  obtain ⟨r, m1, m2, e1, e2, ht⟩ := end_ok a m h.tp
  have f1 := fr_T_end _ _ _ _ e1
  have f2 := fr_M_end _ _ _ _ e2
  exact ok_e e1 (ok_e e2 ⟨rfl, (h.tape (Fr_tr (Fr_wk f1 (by simp) (by simp)) f2 (by simp) (by simp)) ht).inv⟩)
end FEED
