section OSPEC
/-- what the odds are asked of: sessions, margin, what a draw is worth, whether choices are made, runs and outs of a slot at a session in a kind of innings -/
def OP : Type := (Int) × (Int) × (Int) × (Bool) × (Int → Int → Int → Int) × (Int → Int → Int → Int)
def OP.n (t : OP) : Int := t.1
def OP.mg (t : OP) : Int := t.2.1
def OP.dw (t : OP) : Int := t.2.2.1
def OP.bl (t : OP) : Bool := t.2.2.2.1
def OP.R (t : OP) : Int → Int → Int → Int := t.2.2.2.2.1
def OP.U (t : OP) : Int → Int → Int → Int := t.2.2.2.2.2
def OP.mk (n : Int) (mg : Int) (dw : Int) (bl : Bool) (R : Int → Int → Int → Int) (U : Int → Int → Int → Int) : OP := (n, mg, dw, bl, R, U)
theorem OP.n_mk (nq : Int) (mgq : Int) (dwq : Int) (blq : Bool) (Rq : Int → Int → Int → Int) (Uq : Int → Int → Int → Int) : (OP.mk nq mgq dwq blq Rq Uq).n = nq := rfl
theorem OP.mg_mk (nq : Int) (mgq : Int) (dwq : Int) (blq : Bool) (Rq : Int → Int → Int → Int) (Uq : Int → Int → Int → Int) : (OP.mk nq mgq dwq blq Rq Uq).mg = mgq := rfl
theorem OP.dw_mk (nq : Int) (mgq : Int) (dwq : Int) (blq : Bool) (Rq : Int → Int → Int → Int) (Uq : Int → Int → Int → Int) : (OP.mk nq mgq dwq blq Rq Uq).dw = dwq := rfl
theorem OP.bl_mk (nq : Int) (mgq : Int) (dwq : Int) (blq : Bool) (Rq : Int → Int → Int → Int) (Uq : Int → Int → Int → Int) : (OP.mk nq mgq dwq blq Rq Uq).bl = blq := rfl
theorem OP.R_mk (nq : Int) (mgq : Int) (dwq : Int) (blq : Bool) (Rq : Int → Int → Int → Int) (Uq : Int → Int → Int → Int) : (OP.mk nq mgq dwq blq Rq Uq).R = Rq := rfl
theorem OP.U_mk (nq : Int) (mgq : Int) (dwq : Int) (blq : Bool) (Rq : Int → Int → Int → Int) (Uq : Int → Int → Int → Int) : (OP.mk nq mgq dwq blq Rq Uq).U = Uq := rfl
/-- kinds: innings 0 to 3, 4 and 5 innings 2 and 3 of a side that followed on -/
def fb (k : Int) : Bool := decide (k = 0 ∨ k = 2 ∨ k = 5)
def inn (k : Int) : Int := if k ≤ 3 then k else k - 2
def sg (k l : Int) : Int := if fb k = true then l else -l
def vl (P : OP) (al : Int) (v : Int × Int) : Int := 100 * v.1 + P.dw * (al - v.1 - v.2)
def pick (P : OP) (al : Int) (go tu : Int × Int) : Int × Int := if vl P al go < vl P al tu then tu else go
def nx (al : Int) (pv : Int → Int → Int → Int × Int) (k l : Int) : Int × Int := if inn (k + 1) = 3 ∧ l < 0 then (0, al) else ((pv (k + 1) 10 (-l)).2, (pv (k + 1) 10 (-l)).1)
def bh (al : Int) (pv : Int → Int → Int → Int × Int) (k o l : Int) : Int × Int := if inn k = 3 then (if 0 < l then (al, 0) else if o = 10 then (if l = 0 then (0, 0) else (0, al)) else pv k o l) else if o = 10 then nx al pv k l else pv k o l
def ru (P : OP) (p k s : Int) (hd : Bool) : Int := if hd = true then 0 else P.R p k s
def ou (P : OP) (p k s : Int) (hd : Bool) : Int := if hd = true then max 0 (P.U p k s - 1) else P.U p k s
def slt (P : OP) (al : Int) (pv : Int → Int → Int → Int × Int) (p k o l : Int) (hd : Bool) (s : Int) : Int × Int := bh al pv k (min 10 (o + ou P p k s hd)) (l + ru P p k s hd)
def pad (v w : Int × Int) : Int × Int := (v.1 + w.1, v.2 + w.2)
def ses (P : OP) (al : Int) (pv : Int → Int → Int → Int × Int) (p k o l : Int) (hd : Bool) : Int × Int := pad (pad (pad (slt P al pv p k o l hd 0) (slt P al pv p k o l hd 1)) (slt P al pv p k o l hd 2)) (slt P al pv p k o l hd 3)
def four : Nat → Int
  | 0 => 1
  | r + 1 => 4 * four r
/-- a fresh innings; al: all ways behind the session -/
def frV (P : OP) (al : Int) (pv : Int → Int → Int → Int × Int) (p k l : Int) : Int × Int :=
  if P.bl = true then ses P al pv p k 0 l false
  else if inn k = 3 then pick P (4 * al) (ses P al pv p k 0 l false) (ses P al pv p k 0 l true)
  else if k = 2 ∧ P.mg ≤ l then pick P (4 * al) (ses P al pv p k 0 l false) ((ses P al pv p 4 0 (-l) false).2, (ses P al pv p 4 0 (-l) false).1)
  else ses P al pv p k 0 l false
def atV (P : OP) (al : Int) (pv : Int → Int → Int → Int × Int) (p k o l : Int) : Int × Int :=
  if o = 10 then frV P al pv p k l
  else if P.bl = true then ses P al pv p k o l false
  else if inn k = 3 then pick P (4 * al) (ses P al pv p k o l false) (ses P al pv p k o l true)
  else pick P (4 * al) (ses P al pv p k o l false) (nx (4 * al) (fun k' _ l' => frV P al pv p k' l') k l)
/-- ways of the side that bats and of the other one, with so many sessions left -/
def V (P : OP) : Nat → Int → Int → Int → Int × Int
  | 0 => fun _ _ _ => (0, 0)
  | r + 1 => fun k o l => atV P (four r) (V P r) (P.n - ((r : Int) + 1)) k o l
theorem four_pos : ∀ r, 1 ≤ four r
  | 0 => by simp [four]
  | r + 1 => by have := four_pos r; simp only [four]; omega
theorem four_le : ∀ r, r ≤ 9 → four r ≤ 262144 := by
  intro r hr
  rcases (show r = 0 ∨ r = 1 ∨ r = 2 ∨ r = 3 ∨ r = 4 ∨ r = 5 ∨ r = 6 ∨ r = 7 ∨ r = 8 ∨ r = 9 by omega) with h | h | h | h | h | h | h | h | h | h <;> subst h <;> decide
theorem pick_ok {P : OP} {al : Int} {v w : Int × Int} {bl : Int} (h : vOK v bl) (h2 : vOK w bl) : vOK (pick P al v w) bl := by
  unfold pick
  split
  · exact h2
  · exact h
theorem nx_ok {al : Int} {pv : Int → Int → Int → Int × Int} {k l : Int} (ha : 0 ≤ al) (h : ∀ k o l, vOK (pv k o l) al) : vOK (nx al pv k l) al := by
  unfold nx
  split
  · exact ⟨by simp, ha, by simp⟩
  · obtain ⟨h1, h2, h3⟩ := h (k + 1) 10 (-l)
    exact ⟨h2, h1, by dsimp only; omega⟩
theorem bh_ok {al : Int} {pv : Int → Int → Int → Int × Int} {k o l : Int} (ha : 0 ≤ al) (h : ∀ k o l, vOK (pv k o l) al) : vOK (bh al pv k o l) al := by
  have z1 : vOK (al, 0) al := ⟨ha, by simp, by simp⟩
  have z2 : vOK (0, al) al := ⟨by simp, ha, by simp⟩
  have z3 : vOK (0, 0) al := ⟨by simp, by simp, by simpa using ha⟩
  unfold bh
  split
  · split
    · exact z1
    · split
      · split
        · exact z3
        · exact z2
      · exact h _ _ _
  · split
    · exact nx_ok ha h
    · exact h _ _ _
theorem pad_ok {v w : Int × Int} {a b : Int} (h : vOK v a) (h2 : vOK w b) : vOK (pad v w) (a + b) := by
  obtain ⟨h1, h3, h4⟩ := h
  obtain ⟨h5, h6, h7⟩ := h2
  exact ⟨by dsimp only [pad]; omega, by dsimp only [pad]; omega, by dsimp only [pad]; omega⟩
theorem ses_ok {P : OP} {al : Int} {pv : Int → Int → Int → Int × Int} {p k o l : Int} {hd : Bool} (ha : 0 ≤ al) (h : ∀ k o l, vOK (pv k o l) al) : vOK (ses P al pv p k o l hd) (4 * al) := by
  have h1 : ∀ s, vOK (slt P al pv p k o l hd s) al := fun s => bh_ok ha h
  have h2 := pad_ok (pad_ok (pad_ok (h1 0) (h1 1)) (h1 2)) (h1 3)
  rw [show al + al + al + al = 4 * al by omega] at h2
  exact h2
theorem sw_ok {v : Int × Int} {a : Int} (h : vOK v a) : vOK (v.2, v.1) a := ⟨h.2.1, h.1, by have := h.2.2; dsimp only; omega⟩
theorem frV_ok {P : OP} {al : Int} {pv : Int → Int → Int → Int × Int} {p k l : Int} (ha : 0 ≤ al) (h : ∀ k o l, vOK (pv k o l) al) : vOK (frV P al pv p k l) (4 * al) := by
  unfold frV
  split
  · exact ses_ok ha h
  · split
    · exact pick_ok (ses_ok ha h) (ses_ok ha h)
    · split
      · exact pick_ok (ses_ok ha h) (sw_ok (ses_ok ha h))
      · exact ses_ok ha h
theorem atV_ok {P : OP} {al : Int} {pv : Int → Int → Int → Int × Int} {p k o l : Int} (ha : 0 ≤ al) (h : ∀ k o l, vOK (pv k o l) al) : vOK (atV P al pv p k o l) (4 * al) := by
  unfold atV
  split
  · exact frV_ok ha h
  · split
    · exact ses_ok ha h
    · split
      · exact pick_ok (ses_ok ha h) (ses_ok ha h)
      · exact pick_ok (ses_ok ha h) (nx_ok (by omega) (fun _ _ _ => frV_ok ha h))
theorem V_ok {P : OP} : ∀ (r : Nat) (k o l : Int), vOK (V P r k o l) (four r)
  | 0, _, _, _ => ⟨by simp [V], by simp [V], by simp [V, four]⟩
  | r + 1, k, o, l => atV_ok (by have := four_pos r; omega) (V_ok r)
/-- a lead of the side that bats last wins whatever comes -/
theorem bh_lead {al : Int} {pv : Int → Int → Int → Int × Int} {k o l : Int} (hk : inn k = 3) (hl : 0 < l) : bh al pv k o l = (al, 0) := by
  unfold bh
  rw [if_pos hk, if_pos hl]
theorem ses_lead {P : OP} {al : Int} {pv : Int → Int → Int → Int × Int} {p k o l : Int} {hd : Bool} (hR : ∀ p k s, 0 ≤ s → s ≤ 3 → 0 ≤ P.R p k s ∧ P.R p k s ≤ 9) (hk : inn k = 3) (hl : 0 < l) : ses P al pv p k o l hd = (4 * al, 0) := by
  have h1 : ∀ s, 0 ≤ s → s ≤ 3 → slt P al pv p k o l hd s = (al, 0) := by
    intro s s0 s3
    refine bh_lead hk ?_
    unfold ru
    have := hR p k s s0 s3
    split <;> omega
  unfold ses
  rw [h1 0 (by omega) (by omega), h1 1 (by omega) (by omega), h1 2 (by omega) (by omega), h1 3 (by omega) (by omega)]
  show ((al + al + al + al, 0 + 0 + 0 + 0) : Int × Int) = _
  rw [show al + al + al + al = 4 * al by omega]
  rfl
theorem V_lead {P : OP} {r : Nat} {k o l : Int} (hR : ∀ p k s, 0 ≤ s → s ≤ 3 → 0 ≤ P.R p k s ∧ P.R p k s ≤ 9) (hk : inn k = 3) (hl : 0 < l) : V P (r + 1) k o l = (four (r + 1), 0) := by
  show atV P (four r) (V P r) (P.n - ((r : Int) + 1)) k o l = (4 * four r, 0)
  have h1 : ∀ o hd, ses P (four r) (V P r) (P.n - ((r : Int) + 1)) k o l hd = (4 * four r, 0) := fun o hd => ses_lead hR hk hl
  unfold atV frV
  rw [h1, h1, h1, h1]
  unfold pick
  simp [hk]
/-- the odds' question as ground, law and who bats first tell it -/
def rainB (w : Nat → Int32) (p : Int) : Bool := decide ((w 8 >>> (iI p &&& 31)) &&& 1 = (1 : Int32))
def btK (f k : Int) : Int := if fb k = true then f else 1 - f
def opOf (w : Nat → Int32) (law : Option (List (Int × List Int))) (n mg f dw : Int) (bl : Bool) : OP :=
  OP.mk n mg dw bl (fun p k s => if rainB w p = true then 0 else (w (23 + 2 * (4 * levZ w law p (inn k) (btK f k) + s)).toNat).toInt) (fun p k s => if rainB w p = true then 0 else (w (24 + 2 * (4 * levZ w law p (inn k) (btK f k) + s)).toNat).toInt)
end OSPEC
