section INI
/-! ===== the state behind both constructors ===== -/
def wlF : WL_ := wTossGroundModel (wTossGround [])
def rlF : RL_ := rTossGroundModel (rTossGround [])
def mF : Mem := memOf wlF
theorem mrOf_no {l : RL_} {o j : Nat} (h : ∀ q ∈ l, q.1 = o → q.2.1 ≠ j) : mrOf l o j = none := by
  induction l with
  | nil => rfl
  | cons q l ih =>
    obtain ⟨h1, h2⟩ := List.forall_mem_cons.mp h
    show (if o = q.1 ∧ j = q.2.1 then some q.2.2 else mrOf l o j) = none
    rw [if_neg (fun e => h1 e.1.symm e.2.symm), ih h2]
set_option maxRecDepth 100000 in
theorem rlF_in : ∀ o, o < 92 → ∀ j, j < 27 → mrOf rlF o j = mr0 o j := by decide +kernel
theorem rlF_lt : ∀ q ∈ rlF, q.1 < 92 ∧ q.2.1 < 27 := by decide +kernel
theorem mrL_len : mrL.length = 92 := by decide +kernel
theorem mrL_row : ∀ r ∈ mrL, r.length ≤ 27 := by decide +kernel
theorem getD_out {α : Type} {l : List α} {i : Nat} {d : α} (h : l.length ≤ i) : l.getD i d = d := by
  simp [List.getD, List.getElem?_eq_none h]
theorem rlF_mr : mrOf rlF = mr0 := by
  funext o j
  by_cases ho : o < 92
  · by_cases hj : j < 27
    · exact rlF_in o ho j hj
    · rw [mrOf_no (fun q hq _ => by have := (rlF_lt q hq).2; omega)]
      have hlt : o < mrL.length := by rw [mrL_len]; exact ho
      have hrow : mrL.getD o [] = mrL[o] := by simp [List.getD, hlt]
      have hl := mrL_row _ (List.getElem_mem hlt)
      unfold mr0
      rw [hrow, getD_out (by omega)]
  · rw [mrOf_no (fun q hq e => by have := (rlF_lt q hq).1; omega)]
    unfold mr0
    rw [getD_out (l := mrL) (by rw [mrL_len]; omega)]
    rfl
theorem no_at {l : WL_} {o : Nat} (h : ∀ q ∈ l, q.1 ≠ o) : gI (memOf l) o = (fun _ => 0) ∧ gL (memOf l) o = (fun _ => 0) ∧ gZ (memOf l) o = (fun _ => false) := by
  induction l with
  | nil => exact ⟨rfl, rfl, rfl⟩
  | cons q l ih =>
    obtain ⟨h1, h2⟩ := List.forall_mem_cons.mp h
    obtain ⟨i1, i2, i3⟩ := ih h2
    obtain ⟨a, b, c⟩ := q
    have hn : o ≠ a := fun e => h1 e.symm
    rcases c with x | x | x
    · exact ⟨(gI_sI_ne hn).trans i1, i2, i3⟩
    · exact ⟨i1, (gL_sL_ne hn).trans i2, i3⟩
    · exact ⟨i1, i2, (gZ_sZ_ne hn).trans i3⟩
theorem n15 : ∀ q ∈ wlF, q.1 ≠ 15 := by decide +kernel
theorem mF_15 (i : Nat) : gL mF 15 i = 0 := by rw [mF, (no_at n15).2.1]
def t0F : Mt := Mt.mk (-1) 0 0 0 (-1) false false 1 0 0 (fun _ => 0)
theorem ok0F : MtOk t0F 6 := MtOk.mk ⟨by decide, by decide, by decide, by decide, by decide, by decide, by decide, by decide, by decide, by decide, by decide, by decide, by decide, by decide, by decide, fun _ => ⟨rfl, rfl, rfl, rfl, rfl⟩, by decide, by decide, by decide⟩
theorem v_3_0 : gI mF 3 0 = iI 6 := by decide +kernel
theorem v_79_0 : gI mF 79 0 = iI 6 := by decide +kernel
theorem v_14 : ∀ k, k < 72 → gI mF 14 k = iI (-1) := by decide +kernel
theorem v_sl : ∀ k, k < 16 → gI mF 6 k = gI mF 79 (23 + 2 * k) ∧ gI mF 7 k = gI mF 79 (24 + 2 * k) := by decide +kernel
theorem v_sir : ∀ j, j < 4 → gI mF 79 (19 + j) = iI 5 := by decide +kernel
theorem v_slr : ∀ j, j < 32 → gI mF 79 (23 + j) = iI 3 ∨ gI mF 79 (23 + j) = iI 2 := by decide +kernel
theorem gr0F : GR mF 3 4 5 6 7 8 9 12 13 79 none 6 15 40 0 0 :=
  GR.mk ⟨by decide, by decide, by decide, by decide, by decide, by decide, by decide, by decide, by decide, by decide, v_3_0, v_79_0, by decide +kernel, by decide +kernel, by decide +kernel, by decide +kernel, by decide +kernel, by decide +kernel, by decide +kernel, by decide +kernel, by decide +kernel, by decide +kernel, by decide +kernel,
    ⟨by decide +kernel, by decide +kernel, by decide +kernel, by decide +kernel⟩, v_sl, fun j hj => ⟨5, v_sir j hj, by decide, by decide⟩, fun j hj => (v_slr j hj).elim (fun h => ⟨3, h, by decide, by decide⟩) (fun h => ⟨2, h, by decide, by decide⟩), fun j hj => by omega, fun j hj => by omega, ⟨by decide +kernel, by decide +kernel⟩⟩
theorem od0F : OdR 0 none 6 15 40 mF := by
  have h2 : gL mF 2 2 = 0 := by decide +kernel
  refine ⟨by rw [h2]; decide, fun i _ => ?_, fun h => absurd h (by rw [show gZ mF 2 3 = true by decide +kernel]; decide), Or.inl (by decide +kernel), Or.inl (by decide +kernel)⟩
  have hk : kn mF i = 0 := by
    unfold kn
    rw [mF_15]
    rfl
  rw [hk]
  omega
theorem cm0F : CM mF 16 t0F := ⟨by decide +kernel, by decide +kernel, by decide +kernel, by decide +kernel, by decide +kernel, by decide +kernel, by decide +kernel, by decide +kernel, by decide +kernel, by decide +kernel, fun j hj => by
  have h : ((7 : Int) * t0F.pl) = 0 := rfl
  omega⟩
theorem wm0F : WM mF 79 0 t0F := ⟨by decide +kernel, by decide +kernel, by decide +kernel, by decide +kernel, by decide +kernel, by decide +kernel, by decide +kernel, by decide +kernel, by decide +kernel, by decide +kernel, fun j hj => by
  have h : ((7 : Int) * t0F.pl) = 0 := rfl
  omega⟩
theorem iv0F : IV 0 none 6 15 40 0 0 t0F mF :=
  IV.mk ⟨⟨0, by decide, by decide +kernel, by decide +kernel, fun k hk => absurd hk (by omega)⟩, by decide +kernel, by decide +kernel, ⟨by decide +kernel, fun h => absurd h (by rw [show gZ mF 0 13 = false by decide +kernel]; decide)⟩, gr0F, fun k hk => Or.inl (v_14 k hk), cm0F, wm0F, ok0F, ⟨0, 0, by decide, by decide, by decide +kernel, by decide +kernel, by decide +kernel, fun i hi => absurd hi (by omega)⟩, od0F⟩
theorem inv0F : Inv 0 mF := iv0F.inv
end INI
