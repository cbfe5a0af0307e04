theorem P_ground (l : Launch) (hl0 : l.stackTraces = false) (G : GG) {B : Nat} {mem : Mem} (hI : Inv B mem) (hB : B ≤ 100000)  : ∃ (o4 : Ou) (z4 : Int32) (m3 : Mem) (v4 : Int32) (m4 : Mem), Wt l G yL_ground cL_ground 3 [(0, 8, 11, 13), (0, 8, 14, 15)] 16 [.ref (G.2.1 + 0), .ref (G.2.1 + 91)] mem o4 z4 m3 ∧ F_M_ground  m3 = some (v4, m4) ∧ gI m4 78 0 = z4 ∧ (z4 = 0 → gL m4 91 0 = v4.toInt64) ∧ Inv (B + 101) m4 ∧ cxO o4 ≤ 1 ∧ sxO o4 ≤ 6 := by
  obtain ⟨law, n, mg, wd, tx, bc, t, iv⟩ := hI
  obtain ⟨rT, m1, e1, v4, m2, e2, ans, inv⟩ := ground_op iv 
  have inv : Inv (B + 101) m2 := inv.up (by omega)
  cases rT with
  | inl ke =>
    obtain ⟨ha, hz⟩ := ans
    have hk : ke = 1 ∨ ke = 3 := by
      refine Decidable.byContradiction (fun hn => ?_)
      simp only [not_or] at hn
      obtain ⟨n1, n3⟩ := hn
      simp [cdI, cdS, cdN, cdU, cd12, cdH, cdC, cd1, cdG, n1, n3] at ha
    rcases hk with rfl | rfl
    · exact ⟨.inl 1, 1, m1, v4, m2, W_ground_1 l hl0 G  mem m1 e1, e2, hz, fun h => absurd h (by decide), inv, Nat.le_refl 1, Nat.le_refl 6⟩
    · exact ⟨.inl 3, 2, m1, v4, m2, W_ground_3 l hl0 G  mem m1 e1, e2, hz, fun h => absurd h (by decide), inv, Nat.le_refl 1, Nat.le_refl 6⟩
  | inr v =>
    obtain ⟨hz, hv⟩ := ans
    subst hv
    exact ⟨.inr none, 0, sL m1 91 0 (v.toInt64), v, mL m2 (sL m1 91 0 (v.toInt64)).2.1, W_ground_n l hl0 G  mem v m1 e1, so_eq (lc_M_ground _  m1) e2, hz, fun _ => gL_out, inv_out inv (so_same (F := fun m => F_M_ground  m) (lc_M_ground m1.2.1  m1) e2), Nat.zero_le _, Nat.zero_le _⟩
theorem P_law (l : Launch) (hl0 : l.stackTraces = false) (G : GG) {B : Nat} {mem : Mem} (hI : Inv B mem) (hB : B ≤ 100000)  : ∃ (o4 : Ou) (z4 : Int32) (m3 : Mem) (v4 : Int32) (m4 : Mem), Wt l G yL_law cL_law 3 [(0, 8, 11, 13)] 43 [.ref (G.2.1 + 0), .ref (G.2.1 + 91)] mem o4 z4 m3 ∧ F_M_law  m3 = some (v4, m4) ∧ gI m4 78 0 = z4 ∧ (z4 = 0 → gL m4 91 0 = v4.toInt64) ∧ Inv (B + 101) m4 ∧ cxO o4 ≤ 1 ∧ sxO o4 ≤ 6 := by
  obtain ⟨law, n, mg, wd, tx, bc, t, iv⟩ := hI
  obtain ⟨rT, m1, e1, v4, m2, e2, ans, inv⟩ := law_op iv 
  have inv : Inv (B + 101) m2 := inv.up (by omega)
  cases rT with
  | inl ke =>
    obtain ⟨ha, hz⟩ := ans
    have hk : ke = 1 := by
      refine Decidable.byContradiction (fun hn => ?_)
      have n1 := hn
      simp [cdI, cdS, cdN, cdU, cd12, cdH, cdC, cd1, cdG, n1] at ha
    subst hk
    exact ⟨.inl 1, 1, m1, v4, m2, W_law_1 l hl0 G  mem m1 e1, e2, hz, fun h => absurd h (by decide), inv, Nat.le_refl 1, Nat.le_refl 6⟩
  | inr v =>
    obtain ⟨hz, hv⟩ := ans
    subst hv
    exact ⟨.inr none, 0, sL m1 91 0 (v.toInt64), v, mL m2 (sL m1 91 0 (v.toInt64)).2.1, W_law_n l hl0 G  mem v m1 e1, so_eq (lc_M_law _  m1) e2, hz, fun _ => gL_out, inv_out inv (so_same (F := fun m => F_M_law  m) (lc_M_law m1.2.1  m1) e2), Nat.zero_le _, Nat.zero_le _⟩
theorem P_side (l : Launch) (hl0 : l.stackTraces = false) (G : GG) {B : Nat} {mem : Mem} (hI : Inv B mem) (hB : B ≤ 100000) (a1 : Int32) (a2 : Bool) : ∃ (o4 : Ou) (z4 : Int32) (m3 : Mem) (v4 : Int32) (m4 : Mem), Wt l G yL_side cL_side 5 [(0, 10, 13, 24)] 10 [.ref (G.2.1 + 0), .int a1, .int (b2i a2), .ref (G.2.1 + 91)] mem o4 z4 m3 ∧ F_M_side a1 a2 m3 = some (v4, m4) ∧ gI m4 78 0 = z4 ∧ (z4 = 0 → gL m4 91 0 = v4.toInt64) ∧ Inv (B + 101) m4 ∧ cxO o4 ≤ 1 ∧ sxO o4 ≤ 6 := by
  obtain ⟨law, n, mg, wd, tx, bc, t, iv⟩ := hI
  obtain ⟨rT, m1, e1, v4, m2, e2, ans, inv⟩ := side_op iv a1 a2
  have inv : Inv (B + 101) m2 := inv.up (by omega)
  cases rT with
  | inl ke =>
    obtain ⟨ha, hz⟩ := ans
    have hk : ke = 2 := by
      refine Decidable.byContradiction (fun hn => ?_)
      have n2 := hn
      simp [cdI, cdS, cdN, cdU, cd12, cdH, cdC, cd1, cdG, n2] at ha
    subst hk
    exact ⟨.inl 2, 1, m1, v4, m2, W_side_2 l hl0 G a1 a2 mem m1 e1, e2, hz, fun h => absurd h (by decide), inv, Nat.le_refl 1, Nat.le_refl 6⟩
  | inr v =>
    obtain ⟨hz, hv⟩ := ans
    subst hv
    exact ⟨.inr none, 0, sL m1 91 0 (v.toInt64), v, mL m2 (sL m1 91 0 (v.toInt64)).2.1, W_side_n l hl0 G a1 a2 mem v m1 e1, so_eq (lc_M_side _ a1 a2 m1) e2, hz, fun _ => gL_out, inv_out inv (so_same (F := fun m => F_M_side a1 a2 m) (lc_M_side m1.2.1 a1 a2 m1) e2), Nat.zero_le _, Nat.zero_le _⟩
theorem P_slot (l : Launch) (hl0 : l.stackTraces = false) (G : GG) {B : Nat} {mem : Mem} (hI : Inv B mem) (hB : B ≤ 100000) (a1 : Int32) (a2 : Int32) (a3 : Bool) : ∃ (o4 : Ou) (z4 : Int32) (m3 : Mem) (v4 : Int32) (m4 : Mem), Wt l G yL_slot cL_slot 6 [(0, 12, 15, 24)] 10 [.ref (G.2.1 + 0), .int a1, .int a2, .int (b2i a3), .ref (G.2.1 + 91)] mem o4 z4 m3 ∧ F_M_slot a1 a2 a3 m3 = some (v4, m4) ∧ gI m4 78 0 = z4 ∧ (z4 = 0 → gL m4 91 0 = v4.toInt64) ∧ Inv (B + 101) m4 ∧ cxO o4 ≤ 1 ∧ sxO o4 ≤ 6 := by
  obtain ⟨law, n, mg, wd, tx, bc, t, iv⟩ := hI
  obtain ⟨rT, m1, e1, v4, m2, e2, ans, inv⟩ := slot_op iv a1 a2 a3
  have inv : Inv (B + 101) m2 := inv.up (by omega)
  cases rT with
  | inl ke =>
    obtain ⟨ha, hz⟩ := ans
    have hk : ke = 2 := by
      refine Decidable.byContradiction (fun hn => ?_)
      have n2 := hn
      simp [cdI, cdS, cdN, cdU, cd12, cdH, cdC, cd1, cdG, n2] at ha
    subst hk
    exact ⟨.inl 2, 1, m1, v4, m2, W_slot_2 l hl0 G a1 a2 a3 mem m1 e1, e2, hz, fun h => absurd h (by decide), inv, Nat.le_refl 1, Nat.le_refl 6⟩
  | inr v =>
    obtain ⟨hz, hv⟩ := ans
    subst hv
    exact ⟨.inr none, 0, sL m1 91 0 (v.toInt64), v, mL m2 (sL m1 91 0 (v.toInt64)).2.1, W_slot_n l hl0 G a1 a2 a3 mem v m1 e1, so_eq (lc_M_slot _ a1 a2 a3 m1) e2, hz, fun _ => gL_out, inv_out inv (so_same (F := fun m => F_M_slot a1 a2 a3 m) (lc_M_slot m1.2.1 a1 a2 a3 m1) e2), Nat.zero_le _, Nat.zero_le _⟩
theorem P_session (l : Launch) (hl0 : l.stackTraces = false) (G : GG) {B : Nat} {mem : Mem} (hI : Inv B mem) (hB : B ≤ 100000) (a1 : Int32) (a2 : Int32) : ∃ (o4 : Ou) (z4 : Int32) (m3 : Mem) (v4 : Int32) (m4 : Mem), Wt l G yL_session cL_session 5 [(0, 10, 13, 24), (0, 10, 17, 34)] 10 [.ref (G.2.1 + 0), .int a1, .int a2, .ref (G.2.1 + 91)] mem o4 z4 m3 ∧ F_M_session a1 a2 m3 = some (v4, m4) ∧ gI m4 78 0 = z4 ∧ (z4 = 0 → gL m4 91 0 = v4.toInt64) ∧ Inv (B + 101) m4 ∧ cxO o4 ≤ 1 ∧ sxO o4 ≤ 6 := by
  obtain ⟨law, n, mg, wd, tx, bc, t, iv⟩ := hI
  obtain ⟨rT, m1, e1, v4, m2, e2, ans, inv⟩ := session_op iv a1 a2
  have inv : Inv (B + 101) m2 := inv.up (by omega)
  cases rT with
  | inl ke =>
    obtain ⟨ha, hz⟩ := ans
    have hk : ke = 2 ∨ ke = 4 := by
      refine Decidable.byContradiction (fun hn => ?_)
      simp only [not_or] at hn
      obtain ⟨n2, n4⟩ := hn
      simp [cdI, cdS, cdN, cdU, cd12, cdH, cdC, cd1, cdG, n2, n4] at ha
    rcases hk with rfl | rfl
    · exact ⟨.inl 2, 1, m1, v4, m2, W_session_2 l hl0 G a1 a2 mem m1 e1, e2, hz, fun h => absurd h (by decide), inv, Nat.le_refl 1, Nat.le_refl 6⟩
    · exact ⟨.inl 4, 2, m1, v4, m2, W_session_4 l hl0 G a1 a2 mem m1 e1, e2, hz, fun h => absurd h (by decide), inv, Nat.le_refl 1, Nat.le_refl 6⟩
  | inr v =>
    obtain ⟨hz, hv⟩ := ans
    subst hv
    exact ⟨.inr none, 0, sL m1 91 0 (v.toInt64), v, mL m2 (sL m1 91 0 (v.toInt64)).2.1, W_session_n l hl0 G a1 a2 mem v m1 e1, so_eq (lc_M_session _ a1 a2 m1) e2, hz, fun _ => gL_out, inv_out inv (so_same (F := fun m => F_M_session a1 a2 m) (lc_M_session m1.2.1 a1 a2 m1) e2), Nat.zero_le _, Nat.zero_le _⟩
theorem P_level (l : Launch) (hl0 : l.stackTraces = false) (G : GG) {B : Nat} {mem : Mem} (hI : Inv B mem) (hB : B ≤ 100000) (a1 : Int32) (a2 : Int32) (a3 : Int32) : ∃ (o4 : Ou) (z4 : Int32) (m3 : Mem) (v4 : Int32) (m4 : Mem), Wt l G yL_level cL_level 6 [(0, 12, 15, 24)] 10 [.ref (G.2.1 + 0), .int a1, .int a2, .int a3, .ref (G.2.1 + 91)] mem o4 z4 m3 ∧ F_M_level a1 a2 a3 m3 = some (v4, m4) ∧ gI m4 78 0 = z4 ∧ (z4 = 0 → gL m4 91 0 = v4.toInt64) ∧ Inv (B + 101) m4 ∧ cxO o4 ≤ 1 ∧ sxO o4 ≤ 6 := by
  obtain ⟨law, n, mg, wd, tx, bc, t, iv⟩ := hI
  obtain ⟨rT, m1, e1, v4, m2, e2, ans, inv⟩ := level_op iv a1 a2 a3
  have inv : Inv (B + 101) m2 := inv.up (by omega)
  cases rT with
  | inl ke =>
    obtain ⟨ha, hz⟩ := ans
    have hk : ke = 2 := by
      refine Decidable.byContradiction (fun hn => ?_)
      have n2 := hn
      simp [cdI, cdS, cdN, cdU, cd12, cdH, cdC, cd1, cdG, n2] at ha
    subst hk
    exact ⟨.inl 2, 1, m1, v4, m2, W_level_2 l hl0 G a1 a2 a3 mem m1 e1, e2, hz, fun h => absurd h (by decide), inv, Nat.le_refl 1, Nat.le_refl 6⟩
  | inr v =>
    obtain ⟨hz, hv⟩ := ans
    subst hv
    exact ⟨.inr none, 0, sL m1 91 0 (v.toInt64), v, mL m2 (sL m1 91 0 (v.toInt64)).2.1, W_level_n l hl0 G a1 a2 a3 mem v m1 e1, so_eq (lc_M_level _ a1 a2 a3 m1) e2, hz, fun _ => gL_out, inv_out inv (so_same (F := fun m => F_M_level a1 a2 a3 m) (lc_M_level m1.2.1 a1 a2 a3 m1) e2), Nat.zero_le _, Nat.zero_le _⟩
theorem P_match (l : Launch) (hl0 : l.stackTraces = false) (G : GG) {B : Nat} {mem : Mem} (hI : Inv B mem) (hB : B ≤ 100000) (a1 : Int32) : ∃ (o4 : Ou) (z4 : Int32) (m3 : Mem) (v4 : Int32) (m4 : Mem), Wt l G yL_match cL_match 4 [(0, 9, 12, 34)] 9 [.ref (G.2.1 + 0), .int a1, .ref (G.2.1 + 91)] mem o4 z4 m3 ∧ F_M_match a1 m3 = some (v4, m4) ∧ gI m4 78 0 = z4 ∧ (z4 = 0 → gL m4 91 0 = v4.toInt64) ∧ Inv (B + 101) m4 ∧ cxO o4 ≤ 1 ∧ sxO o4 ≤ 6 := by
  obtain ⟨law, n, mg, wd, tx, bc, t, iv⟩ := hI
  obtain ⟨rT, m1, e1, v4, m2, e2, ans, inv⟩ := match_op iv a1
  have inv : Inv (B + 101) m2 := inv.up (by omega)
  cases rT with
  | inl ke =>
    obtain ⟨ha, hz⟩ := ans
    have hk : ke = 4 := by
      refine Decidable.byContradiction (fun hn => ?_)
      have n4 := hn
      simp [cdI, cdS, cdN, cdU, cd12, cdH, cdC, cd1, cdG, n4] at ha
    subst hk
    exact ⟨.inl 4, 1, m1, v4, m2, W_match_4 l hl0 G a1 mem m1 e1, e2, hz, fun h => absurd h (by decide), inv, Nat.le_refl 1, Nat.le_refl 6⟩
  | inr v =>
    obtain ⟨hz, hv⟩ := ans
    subst hv
    exact ⟨.inr none, 0, sL m1 91 0 (v.toInt64), v, mL m2 (sL m1 91 0 (v.toInt64)).2.1, W_match_n l hl0 G a1 mem v m1 e1, so_eq (lc_M_match _ a1 m1) e2, hz, fun _ => gL_out, inv_out inv (so_same (F := fun m => F_M_match a1 m) (lc_M_match m1.2.1 a1 m1) e2), Nat.zero_le _, Nat.zero_le _⟩
theorem P_toss (l : Launch) (hl0 : l.stackTraces = false) (G : GG) {B : Nat} {mem : Mem} (hI : Inv B mem) (hB : B ≤ 100000) (a1 : Int32) : ∃ (o4 : Ou) (z4 : Int32) (m3 : Mem) (v4 : Int32) (m4 : Mem), Wt l G yL_toss cL_toss 4 [(0, 9, 12, 24), (0, 9, 15, 47)] 10 [.ref (G.2.1 + 0), .int a1, .ref (G.2.1 + 91)] mem o4 z4 m3 ∧ F_M_toss a1 m3 = some (v4, m4) ∧ gI m4 78 0 = z4 ∧ (z4 = 0 → gL m4 91 0 = v4.toInt64) ∧ Inv (B + 101) m4 ∧ cxO o4 ≤ 1 ∧ sxO o4 ≤ 6 := by
  obtain ⟨law, n, mg, wd, tx, bc, t, iv⟩ := hI
  obtain ⟨rT, m1, e1, v4, m2, e2, ans, inv⟩ := toss_op iv a1
  have inv : Inv (B + 101) m2 := inv.up (by omega)
  cases rT with
  | inl ke =>
    obtain ⟨ha, hz⟩ := ans
    have hk : ke = 2 ∨ ke = 0 := by
      refine Decidable.byContradiction (fun hn => ?_)
      simp only [not_or] at hn
      obtain ⟨n2, n0⟩ := hn
      simp [cdI, cdS, cdN, cdU, cd12, cdH, cdC, cd1, cdG, n2, n0] at ha
    rcases hk with rfl | rfl
    · exact ⟨.inl 2, 1, m1, v4, m2, W_toss_2 l hl0 G a1 mem m1 e1, e2, hz, fun h => absurd h (by decide), inv, Nat.le_refl 1, Nat.le_refl 6⟩
    · exact ⟨.inl 0, 2, m1, v4, m2, W_toss_0 l hl0 G a1 mem m1 e1, e2, hz, fun h => absurd h (by decide), inv, Nat.le_refl 1, Nat.le_refl 6⟩
  | inr v =>
    obtain ⟨hz, hv⟩ := ans
    subst hv
    exact ⟨.inr none, 0, sL m1 91 0 (v.toInt64), v, mL m2 (sL m1 91 0 (v.toInt64)).2.1, W_toss_n l hl0 G a1 mem v m1 e1, so_eq (lc_M_toss _ a1 m1) e2, hz, fun _ => gL_out, inv_out inv (so_same (F := fun m => F_M_toss a1 m) (lc_M_toss m1.2.1 a1 m1) e2), Nat.zero_le _, Nat.zero_le _⟩
theorem P_play (l : Launch) (hl0 : l.stackTraces = false) (G : GG) {B : Nat} {mem : Mem} (hI : Inv B mem) (hB : B ≤ 100000)  : ∃ (o4 : Ou) (z4 : Int32) (m3 : Mem) (v4 : Int32) (m4 : Mem), Wt l G yL_play cL_play 3 [(0, 8, 11, 47)] 10 [.ref (G.2.1 + 0), .ref (G.2.1 + 91)] mem o4 z4 m3 ∧ F_M_play  m3 = some (v4, m4) ∧ gI m4 78 0 = z4 ∧ (z4 = 0 → gL m4 91 0 = v4.toInt64) ∧ Inv (B + 101) m4 ∧ cxO o4 ≤ 1 ∧ sxO o4 ≤ 6 := by
  obtain ⟨law, n, mg, wd, tx, bc, t, iv⟩ := hI
  obtain ⟨rT, m1, e1, v4, m2, e2, ans, inv⟩ := play_op iv 
  have inv : Inv (B + 101) m2 := inv.up (by omega)
  cases rT with
  | inl ke =>
    obtain ⟨ha, hz⟩ := ans
    have hk : ke = 0 := by
      refine Decidable.byContradiction (fun hn => ?_)
      have n0 := hn
      simp [cdI, cdS, cdN, cdU, cd12, cdH, cdC, cd1, cdG, n0] at ha
    subst hk
    exact ⟨.inl 0, 1, m1, v4, m2, W_play_0 l hl0 G  mem m1 e1, e2, hz, fun h => absurd h (by decide), inv, Nat.le_refl 1, Nat.le_refl 6⟩
  | inr v =>
    obtain ⟨hz, hv⟩ := ans
    subst hv
    exact ⟨.inr none, 0, sL m1 91 0 (v.toInt64), v, mL m2 (sL m1 91 0 (v.toInt64)).2.1, W_play_n l hl0 G  mem v m1 e1, so_eq (lc_M_play _  m1) e2, hz, fun _ => gL_out, inv_out inv (so_same (F := fun m => F_M_play  m) (lc_M_play m1.2.1  m1) e2), Nat.zero_le _, Nat.zero_le _⟩
theorem P_bring (l : Launch) (hl0 : l.stackTraces = false) (G : GG) {B : Nat} {mem : Mem} (hI : Inv B mem) (hB : B ≤ 100000) (a1 : Int32) : ∃ (o4 : Ou) (z4 : Int32) (m3 : Mem) (v4 : Int32) (m4 : Mem), Wt l G yL_bring cL_bring 4 [(0, 9, 12, 24), (0, 9, 15, 47)] 10 [.ref (G.2.1 + 0), .int a1, .ref (G.2.1 + 91)] mem o4 z4 m3 ∧ F_M_bring a1 m3 = some (v4, m4) ∧ gI m4 78 0 = z4 ∧ (z4 = 0 → gL m4 91 0 = v4.toInt64) ∧ Inv (B + 101) m4 ∧ cxO o4 ≤ 1 ∧ sxO o4 ≤ 6 := by
  obtain ⟨law, n, mg, wd, tx, bc, t, iv⟩ := hI
  obtain ⟨rT, m1, e1, v4, m2, e2, ans, inv⟩ := bring_op iv a1
  have inv : Inv (B + 101) m2 := inv.up (by omega)
  cases rT with
  | inl ke =>
    obtain ⟨ha, hz⟩ := ans
    have hk : ke = 2 ∨ ke = 0 := by
      refine Decidable.byContradiction (fun hn => ?_)
      simp only [not_or] at hn
      obtain ⟨n2, n0⟩ := hn
      simp [cdI, cdS, cdN, cdU, cd12, cdH, cdC, cd1, cdG, n2, n0] at ha
    rcases hk with rfl | rfl
    · exact ⟨.inl 2, 1, m1, v4, m2, W_bring_2 l hl0 G a1 mem m1 e1, e2, hz, fun h => absurd h (by decide), inv, Nat.le_refl 1, Nat.le_refl 6⟩
    · exact ⟨.inl 0, 2, m1, v4, m2, W_bring_0 l hl0 G a1 mem m1 e1, e2, hz, fun h => absurd h (by decide), inv, Nat.le_refl 1, Nat.le_refl 6⟩
  | inr v =>
    obtain ⟨hz, hv⟩ := ans
    subst hv
    exact ⟨.inr none, 0, sL m1 91 0 (v.toInt64), v, mL m2 (sL m1 91 0 (v.toInt64)).2.1, W_bring_n l hl0 G a1 mem v m1 e1, so_eq (lc_M_bring _ a1 m1) e2, hz, fun _ => gL_out, inv_out inv (so_same (F := fun m => F_M_bring a1 m) (lc_M_bring m1.2.1 a1 m1) e2), Nat.zero_le _, Nat.zero_le _⟩
theorem P_hold (l : Launch) (hl0 : l.stackTraces = false) (G : GG) {B : Nat} {mem : Mem} (hI : Inv B mem) (hB : B ≤ 100000) (a1 : Int32) : ∃ (o4 : Ou) (z4 : Int32) (m3 : Mem) (v4 : Int32) (m4 : Mem), Wt l G yL_hold cL_hold 4 [(0, 9, 12, 24), (0, 9, 15, 47)] 10 [.ref (G.2.1 + 0), .int a1, .ref (G.2.1 + 91)] mem o4 z4 m3 ∧ F_M_hold a1 m3 = some (v4, m4) ∧ gI m4 78 0 = z4 ∧ (z4 = 0 → gL m4 91 0 = v4.toInt64) ∧ Inv (B + 101) m4 ∧ cxO o4 ≤ 1 ∧ sxO o4 ≤ 6 := by
  obtain ⟨law, n, mg, wd, tx, bc, t, iv⟩ := hI
  obtain ⟨rT, m1, e1, v4, m2, e2, ans, inv⟩ := hold_op iv a1
  have inv : Inv (B + 101) m2 := inv.up (by omega)
  cases rT with
  | inl ke =>
    obtain ⟨ha, hz⟩ := ans
    have hk : ke = 2 ∨ ke = 0 := by
      refine Decidable.byContradiction (fun hn => ?_)
      simp only [not_or] at hn
      obtain ⟨n2, n0⟩ := hn
      simp [cdI, cdS, cdN, cdU, cd12, cdH, cdC, cd1, cdG, n2, n0] at ha
    rcases hk with rfl | rfl
    · exact ⟨.inl 2, 1, m1, v4, m2, W_hold_2 l hl0 G a1 mem m1 e1, e2, hz, fun h => absurd h (by decide), inv, Nat.le_refl 1, Nat.le_refl 6⟩
    · exact ⟨.inl 0, 2, m1, v4, m2, W_hold_0 l hl0 G a1 mem m1 e1, e2, hz, fun h => absurd h (by decide), inv, Nat.le_refl 1, Nat.le_refl 6⟩
  | inr v =>
    obtain ⟨hz, hv⟩ := ans
    subst hv
    exact ⟨.inr none, 0, sL m1 91 0 (v.toInt64), v, mL m2 (sL m1 91 0 (v.toInt64)).2.1, W_hold_n l hl0 G a1 mem v m1 e1, so_eq (lc_M_hold _ a1 m1) e2, hz, fun _ => gL_out, inv_out inv (so_same (F := fun m => F_M_hold a1 m) (lc_M_hold m1.2.1 a1 m1) e2), Nat.zero_le _, Nat.zero_le _⟩
theorem P_declare (l : Launch) (hl0 : l.stackTraces = false) (G : GG) {B : Nat} {mem : Mem} (hI : Inv B mem) (hB : B ≤ 100000)  : ∃ (o4 : Ou) (z4 : Int32) (m3 : Mem) (v4 : Int32) (m4 : Mem), Wt l G yL_declare cL_declare 3 [(0, 8, 11, 47)] 9 [.ref (G.2.1 + 0), .ref (G.2.1 + 91)] mem o4 z4 m3 ∧ F_M_declare  m3 = some (v4, m4) ∧ gI m4 78 0 = z4 ∧ (z4 = 0 → gL m4 91 0 = v4.toInt64) ∧ Inv (B + 101) m4 ∧ cxO o4 ≤ 1 ∧ sxO o4 ≤ 6 := by
  obtain ⟨law, n, mg, wd, tx, bc, t, iv⟩ := hI
  obtain ⟨rT, m1, e1, v4, m2, e2, ans, inv⟩ := declare_op iv 
  have inv : Inv (B + 101) m2 := inv.up (by omega)
  cases rT with
  | inl ke =>
    obtain ⟨ha, hz⟩ := ans
    have hk : ke = 0 := by
      refine Decidable.byContradiction (fun hn => ?_)
      have n0 := hn
      simp [cdI, cdS, cdN, cdU, cd12, cdH, cdC, cd1, cdG, n0] at ha
    subst hk
    exact ⟨.inl 0, 1, m1, v4, m2, W_declare_0 l hl0 G  mem m1 e1, e2, hz, fun h => absurd h (by decide), inv, Nat.le_refl 1, Nat.le_refl 6⟩
  | inr v =>
    obtain ⟨hz, hv⟩ := ans
    subst hv
    exact ⟨.inr none, 0, sL m1 91 0 (v.toInt64), v, mL m2 (sL m1 91 0 (v.toInt64)).2.1, W_declare_n l hl0 G  mem v m1 e1, so_eq (lc_M_declare _  m1) e2, hz, fun _ => gL_out, inv_out inv (so_same (F := fun m => F_M_declare  m) (lc_M_declare m1.2.1  m1) e2), Nat.zero_le _, Nat.zero_le _⟩
theorem P_follow (l : Launch) (hl0 : l.stackTraces = false) (G : GG) {B : Nat} {mem : Mem} (hI : Inv B mem) (hB : B ≤ 100000)  : ∃ (o4 : Ou) (z4 : Int32) (m3 : Mem) (v4 : Int32) (m4 : Mem), Wt l G yL_follow cL_follow 3 [(0, 8, 11, 47)] 9 [.ref (G.2.1 + 0), .ref (G.2.1 + 91)] mem o4 z4 m3 ∧ F_M_follow  m3 = some (v4, m4) ∧ gI m4 78 0 = z4 ∧ (z4 = 0 → gL m4 91 0 = v4.toInt64) ∧ Inv (B + 101) m4 ∧ cxO o4 ≤ 1 ∧ sxO o4 ≤ 6 := by
  obtain ⟨law, n, mg, wd, tx, bc, t, iv⟩ := hI
  obtain ⟨rT, m1, e1, v4, m2, e2, ans, inv⟩ := follow_op iv 
  have inv : Inv (B + 101) m2 := inv.up (by omega)
  cases rT with
  | inl ke =>
    obtain ⟨ha, hz⟩ := ans
    have hk : ke = 0 := by
      refine Decidable.byContradiction (fun hn => ?_)
      have n0 := hn
      simp [cdI, cdS, cdN, cdU, cd12, cdH, cdC, cd1, cdG, n0] at ha
    subst hk
    exact ⟨.inl 0, 1, m1, v4, m2, W_follow_0 l hl0 G  mem m1 e1, e2, hz, fun h => absurd h (by decide), inv, Nat.le_refl 1, Nat.le_refl 6⟩
  | inr v =>
    obtain ⟨hz, hv⟩ := ans
    subst hv
    exact ⟨.inr none, 0, sL m1 91 0 (v.toInt64), v, mL m2 (sL m1 91 0 (v.toInt64)).2.1, W_follow_n l hl0 G  mem v m1 e1, so_eq (lc_M_follow _  m1) e2, hz, fun _ => gL_out, inv_out inv (so_same (F := fun m => F_M_follow  m) (lc_M_follow m1.2.1  m1) e2), Nat.zero_le _, Nat.zero_le _⟩
theorem P_here (l : Launch) (hl0 : l.stackTraces = false) (G : GG) {B : Nat} {mem : Mem} (hI : Inv B mem) (hB : B ≤ 100000) (a1 : Int32) : ∃ (o4 : Ou) (z4 : Int32) (m3 : Mem) (v4 : Int64) (m4 : Mem), Wt l G yL_here cL_here 4 [(0, 8, 11, 47), (0, 8, 14, 34)] 289 [.ref (G.2.1 + 0), .int a1, .ref (G.2.1 + 91)] mem o4 z4 m3 ∧ F_M_here a1 m3 = some (v4, m4) ∧ gI m4 78 0 = z4 ∧ (z4 = 0 → gL m4 91 0 = v4) ∧ Inv (B + 101) m4 ∧ cxO o4 ≤ 1 ∧ sxO o4 ≤ 6 := by
  obtain ⟨law, n, mg, wd, tx, bc, t, iv⟩ := hI
  obtain ⟨rT, m1, e1, v4, m2, e2, ans, inv⟩ := here_op iv (by omega) a1
  have inv : Inv (B + 101) m2 := inv.up (by omega)
  cases rT with
  | inl ke =>
    obtain ⟨ha, hz⟩ := ans
    have hk : ke = 0 ∨ ke = 4 := by
      refine Decidable.byContradiction (fun hn => ?_)
      simp only [not_or] at hn
      obtain ⟨n0, n4⟩ := hn
      simp [cdI, cdS, cdN, cdU, cd12, cdH, cdC, cd1, cdG, n0, n4] at ha
    rcases hk with rfl | rfl
    · exact ⟨.inl 0, 1, m1, v4, m2, W_here_0 l hl0 G a1 mem m1 e1, e2, hz, fun h => absurd h (by decide), inv, Nat.le_refl 1, Nat.le_refl 6⟩
    · exact ⟨.inl 4, 2, m1, v4, m2, W_here_4 l hl0 G a1 mem m1 e1, e2, hz, fun h => absurd h (by decide), inv, Nat.le_refl 1, Nat.le_refl 6⟩
  | inr v =>
    obtain ⟨hz, hv⟩ := ans
    subst hv
    exact ⟨.inr none, 0, sL m1 91 0 v, v, mL m2 (sL m1 91 0 v).2.1, W_here_n l hl0 G a1 mem v m1 e1, so_eq (lc_M_here _ a1 m1) e2, hz, fun _ => gL_out, inv_out inv (so_same (F := fun m => F_M_here a1 m) (lc_M_here m1.2.1 a1 m1) e2), Nat.zero_le _, Nat.zero_le _⟩
theorem P_worth (l : Launch) (hl0 : l.stackTraces = false) (G : GG) {B : Nat} {mem : Mem} (hI : Inv B mem) (hB : B ≤ 100000) (a1 : Int32) (a2 : Int32) : ∃ (o4 : Ou) (z4 : Int32) (m3 : Mem) (v4 : Int64) (m4 : Mem), Wt l G yL_worth cL_worth 5 [(0, 9, 12, 24), (0, 9, 16, 34)] 290 [.ref (G.2.1 + 0), .int a1, .int a2, .ref (G.2.1 + 91)] mem o4 z4 m3 ∧ F_M_worth a1 a2 m3 = some (v4, m4) ∧ gI m4 78 0 = z4 ∧ (z4 = 0 → gL m4 91 0 = v4) ∧ Inv (B + 101) m4 ∧ cxO o4 ≤ 1 ∧ sxO o4 ≤ 6 := by
  obtain ⟨law, n, mg, wd, tx, bc, t, iv⟩ := hI
  obtain ⟨rT, m1, e1, v4, m2, e2, ans, inv⟩ := worth_op iv (by omega) a1 a2
  have inv : Inv (B + 101) m2 := inv.up (by omega)
  cases rT with
  | inl ke =>
    obtain ⟨ha, hz⟩ := ans
    have hk : ke = 2 ∨ ke = 4 := by
      refine Decidable.byContradiction (fun hn => ?_)
      simp only [not_or] at hn
      obtain ⟨n2, n4⟩ := hn
      simp [cdI, cdS, cdN, cdU, cd12, cdH, cdC, cd1, cdG, n2, n4] at ha
    rcases hk with rfl | rfl
    · exact ⟨.inl 2, 1, m1, v4, m2, W_worth_2 l hl0 G a1 a2 mem m1 e1, e2, hz, fun h => absurd h (by decide), inv, Nat.le_refl 1, Nat.le_refl 6⟩
    · exact ⟨.inl 4, 2, m1, v4, m2, W_worth_4 l hl0 G a1 a2 mem m1 e1, e2, hz, fun h => absurd h (by decide), inv, Nat.le_refl 1, Nat.le_refl 6⟩
  | inr v =>
    obtain ⟨hz, hv⟩ := ans
    subst hv
    exact ⟨.inr none, 0, sL m1 91 0 v, v, mL m2 (sL m1 91 0 v).2.1, W_worth_n l hl0 G a1 a2 mem v m1 e1, so_eq (lc_M_worth _ a1 a2 m1) e2, hz, fun _ => gL_out, inv_out inv (so_same (F := fun m => F_M_worth a1 a2 m) (lc_M_worth m1.2.1 a1 a2 m1) e2), Nat.zero_le _, Nat.zero_le _⟩
theorem P_evens (l : Launch) (hl0 : l.stackTraces = false) (G : GG) {B : Nat} {mem : Mem} (hI : Inv B mem) (hB : B ≤ 100000) (a1 : Int32) : ∃ (o4 : Ou) (z4 : Int32) (m3 : Mem) (v4 : Int64) (m4 : Mem), Wt l G yL_evens cL_evens 4 [(0, 8, 11, 24)] 290 [.ref (G.2.1 + 0), .int a1, .ref (G.2.1 + 91)] mem o4 z4 m3 ∧ F_M_evens a1 m3 = some (v4, m4) ∧ gI m4 78 0 = z4 ∧ (z4 = 0 → gL m4 91 0 = v4) ∧ Inv (B + 101) m4 ∧ cxO o4 ≤ 1 ∧ sxO o4 ≤ 6 := by
  obtain ⟨law, n, mg, wd, tx, bc, t, iv⟩ := hI
  obtain ⟨rT, m1, e1, v4, m2, e2, ans, inv⟩ := evens_op iv (by omega) a1
  have inv : Inv (B + 101) m2 := inv.up (by omega)
  cases rT with
  | inl ke =>
    obtain ⟨ha, hz⟩ := ans
    have hk : ke = 2 := by
      refine Decidable.byContradiction (fun hn => ?_)
      have n2 := hn
      simp [cdI, cdS, cdN, cdU, cd12, cdH, cdC, cd1, cdG, n2] at ha
    subst hk
    exact ⟨.inl 2, 1, m1, v4, m2, W_evens_2 l hl0 G a1 mem m1 e1, e2, hz, fun h => absurd h (by decide), inv, Nat.le_refl 1, Nat.le_refl 6⟩
  | inr v =>
    obtain ⟨hz, hv⟩ := ans
    subst hv
    exact ⟨.inr none, 0, sL m1 91 0 v, v, mL m2 (sL m1 91 0 v).2.1, W_evens_n l hl0 G a1 mem v m1 e1, so_eq (lc_M_evens _ a1 m1) e2, hz, fun _ => gL_out, inv_out inv (so_same (F := fun m => F_M_evens a1 m) (lc_M_evens m1.2.1 a1 m1) e2), Nat.zero_le _, Nat.zero_le _⟩
theorem P_after (l : Launch) (hl0 : l.stackTraces = false) (G : GG) {B : Nat} {mem : Mem} (hI : Inv B mem) (hB : B ≤ 100000) (a1 : Int32) (a2 : Int32) : ∃ (o4 : Ou) (z4 : Int32) (m3 : Mem) (v4 : Int64) (m4 : Mem), Wt l G yL_after cL_after 5 [(0, 9, 12, 24), (0, 9, 16, 47), (0, 9, 20, 34)] 292 [.ref (G.2.1 + 0), .int a1, .int a2, .ref (G.2.1 + 91)] mem o4 z4 m3 ∧ F_M_after_IIJ a1 a2 m3 = some (v4, m4) ∧ gI m4 78 0 = z4 ∧ (z4 = 0 → gL m4 91 0 = v4) ∧ Inv (B + 101) m4 ∧ cxO o4 ≤ 1 ∧ sxO o4 ≤ 6 := by
  obtain ⟨law, n, mg, wd, tx, bc, t, iv⟩ := hI
  obtain ⟨rT, m1, e1, v4, m2, e2, ans, inv⟩ := after_op iv (by omega) a1 a2
  have inv : Inv (B + 101) m2 := inv.up (by omega)
  cases rT with
  | inl ke =>
    obtain ⟨ha, hz⟩ := ans
    have hk : ke = 2 ∨ ke = 0 ∨ ke = 4 := by
      refine Decidable.byContradiction (fun hn => ?_)
      simp only [not_or] at hn
      obtain ⟨n2, n0, n4⟩ := hn
      simp [cdI, cdS, cdN, cdU, cd12, cdH, cdC, cd1, cdG, n2, n0, n4] at ha
    rcases hk with rfl | rfl | rfl
    · exact ⟨.inl 2, 1, m1, v4, m2, W_after_2 l hl0 G a1 a2 mem m1 e1, e2, hz, fun h => absurd h (by decide), inv, Nat.le_refl 1, Nat.le_refl 6⟩
    · exact ⟨.inl 0, 2, m1, v4, m2, W_after_0 l hl0 G a1 a2 mem m1 e1, e2, hz, fun h => absurd h (by decide), inv, Nat.le_refl 1, Nat.le_refl 6⟩
    · exact ⟨.inl 4, 3, m1, v4, m2, W_after_4 l hl0 G a1 a2 mem m1 e1, e2, hz, fun h => absurd h (by decide), inv, Nat.le_refl 1, Nat.le_refl 6⟩
  | inr v =>
    obtain ⟨hz, hv⟩ := ans
    subst hv
    exact ⟨.inr none, 0, sL m1 91 0 v, v, mL m2 (sL m1 91 0 v).2.1, W_after_n l hl0 G a1 a2 mem v m1 e1, so_eq (lc_M_after_IIJ _ a1 a2 m1) e2, hz, fun _ => gL_out, inv_out inv (so_same (F := fun m => F_M_after_IIJ a1 a2 m) (lc_M_after_IIJ m1.2.1 a1 a2 m1) e2), Nat.zero_le _, Nat.zero_le _⟩
theorem P_turning (l : Launch) (hl0 : l.stackTraces = false) (G : GG) {B : Nat} {mem : Mem} (hI : Inv B mem) (hB : B ≤ 100000) (a1 : Bool) : ∃ (o4 : Ou) (z4 : Int32) (m3 : Mem) (v4 : Int32) (m4 : Mem), Wt l G yL_turning cL_turning 4 [(0, 9, 12, 47)] 292 [.ref (G.2.1 + 0), .int (b2i a1), .ref (G.2.1 + 91)] mem o4 z4 m3 ∧ F_M_turning a1 m3 = some (v4, m4) ∧ gI m4 78 0 = z4 ∧ (z4 = 0 → gL m4 91 0 = v4.toInt64) ∧ Inv (B + 101) m4 ∧ cxO o4 ≤ 1 ∧ sxO o4 ≤ 6 := by
  obtain ⟨law, n, mg, wd, tx, bc, t, iv⟩ := hI
  obtain ⟨rT, m1, e1, v4, m2, e2, ans, inv⟩ := turning_op iv (by omega) a1
  have inv : Inv (B + 101) m2 := inv.up (by omega)
  cases rT with
  | inl ke =>
    obtain ⟨ha, hz⟩ := ans
    have hk : ke = 0 := by
      refine Decidable.byContradiction (fun hn => ?_)
      have n0 := hn
      simp [cdI, cdS, cdN, cdU, cd12, cdH, cdC, cd1, cdG, n0] at ha
    subst hk
    exact ⟨.inl 0, 1, m1, v4, m2, W_turning_0 l hl0 G a1 mem m1 e1, e2, hz, fun h => absurd h (by decide), inv, Nat.le_refl 1, Nat.le_refl 6⟩
  | inr v =>
    obtain ⟨hz, hv⟩ := ans
    subst hv
    exact ⟨.inr none, 0, sL m1 91 0 (v.toInt64), v, mL m2 (sL m1 91 0 (v.toInt64)).2.1, W_turning_n l hl0 G a1 mem v m1 e1, so_eq (lc_M_turning _ a1 m1) e2, hz, fun _ => gL_out, inv_out inv (so_same (F := fun m => F_M_turning a1 m) (lc_M_turning m1.2.1 a1 m1) e2), Nat.zero_le _, Nat.zero_le _⟩
theorem P_wins (l : Launch) (hl0 : l.stackTraces = false) (G : GG) {B : Nat} {mem : Mem} (hI : Inv B mem) (hB : B ≤ 100000) (a1 : Int32) (a2 : Int32) (a3 : Bool) (a4 : Int32) (a5 : Int32) (a6 : Int32) : ∃ (o4 : Ou) (z4 : Int32) (m3 : Mem) (v4 : Int64) (m4 : Mem), Wt l G yL_wins cL_wins 9 [(0, 17, 20, 24), (0, 17, 24, 13), (0, 17, 28, 34)] 289 [.ref (G.2.1 + 0), .int a1, .int a2, .int (b2i a3), .int a4, .int a5, .int a6, .ref (G.2.1 + 91)] mem o4 z4 m3 ∧ F_M_wins a1 a2 a3 a4 a5 a6 m3 = some (v4, m4) ∧ gI m4 78 0 = z4 ∧ (z4 = 0 → gL m4 91 0 = v4) ∧ Inv (B + 101) m4 ∧ cxO o4 ≤ 1 ∧ sxO o4 ≤ 6 := by
  obtain ⟨law, n, mg, wd, tx, bc, t, iv⟩ := hI
  obtain ⟨rT, m1, e1, v4, m2, e2, ans, inv⟩ := wins_op iv (by omega) a1 a2 a3 a4 a5 a6
  have inv : Inv (B + 101) m2 := inv.up (by omega)
  cases rT with
  | inl ke =>
    obtain ⟨ha, hz⟩ := ans
    have hk : ke = 2 ∨ ke = 1 ∨ ke = 4 := by
      refine Decidable.byContradiction (fun hn => ?_)
      simp only [not_or] at hn
      obtain ⟨n2, n1, n4⟩ := hn
      simp [cdI, cdS, cdN, cdU, cd12, cdH, cdC, cd1, cdG, n2, n1, n4] at ha
    rcases hk with rfl | rfl | rfl
    · exact ⟨.inl 2, 1, m1, v4, m2, W_wins_2 l hl0 G a1 a2 a3 a4 a5 a6 mem m1 e1, e2, hz, fun h => absurd h (by decide), inv, Nat.le_refl 1, Nat.le_refl 6⟩
    · exact ⟨.inl 1, 2, m1, v4, m2, W_wins_1 l hl0 G a1 a2 a3 a4 a5 a6 mem m1 e1, e2, hz, fun h => absurd h (by decide), inv, Nat.le_refl 1, Nat.le_refl 6⟩
    · exact ⟨.inl 4, 3, m1, v4, m2, W_wins_4 l hl0 G a1 a2 a3 a4 a5 a6 mem m1 e1, e2, hz, fun h => absurd h (by decide), inv, Nat.le_refl 1, Nat.le_refl 6⟩
  | inr v =>
    obtain ⟨hz, hv⟩ := ans
    subst hv
    exact ⟨.inr none, 0, sL m1 91 0 v, v, mL m2 (sL m1 91 0 v).2.1, W_wins_n l hl0 G a1 a2 a3 a4 a5 a6 mem v m1 e1, so_eq (lc_M_wins _ a1 a2 a3 a4 a5 a6 m1) e2, hz, fun _ => gL_out, inv_out inv (so_same (F := fun m => F_M_wins a1 a2 a3 a4 a5 a6 m) (lc_M_wins m1.2.1 a1 a2 a3 a4 a5 a6 m1) e2), Nat.zero_le _, Nat.zero_le _⟩
theorem P_declares (l : Launch) (hl0 : l.stackTraces = false) (G : GG) {B : Nat} {mem : Mem} (hI : Inv B mem) (hB : B ≤ 100000) (a1 : Int32) (a2 : Int32) (a3 : Bool) (a4 : Int32) (a5 : Int32) : ∃ (o4 : Ou) (z4 : Int32) (m3 : Mem) (v4 : Bool) (m4 : Mem), Wt l G yL_declares cL_declares 8 [(0, 23, 26, 24), (0, 23, 30, 13)] 294 [.ref (G.2.1 + 0), .int a1, .int a2, .int (b2i a3), .int a4, .int a5, .ref (G.2.1 + 91)] mem o4 z4 m3 ∧ F_M_declares a1 a2 a3 a4 a5 m3 = some (v4, m4) ∧ gI m4 78 0 = z4 ∧ (z4 = 0 → gL m4 91 0 = b2l v4) ∧ Inv (B + 101) m4 ∧ cxO o4 ≤ 1 ∧ sxO o4 ≤ 6 := by
  obtain ⟨law, n, mg, wd, tx, bc, t, iv⟩ := hI
  obtain ⟨rT, m1, e1, v4, m2, e2, ans, inv⟩ := declares_op iv (by omega) a1 a2 a3 a4 a5
  have inv : Inv (B + 101) m2 := inv.up (by omega)
  cases rT with
  | inl ke =>
    obtain ⟨ha, hz⟩ := ans
    have hk : ke = 2 ∨ ke = 1 := by
      exact nx_declares _ _ e1
    rcases hk with rfl | rfl
    · exact ⟨.inl 2, 1, m1, v4, m2, W_declares_2 l hl0 G a1 a2 a3 a4 a5 mem m1 e1, e2, hz, fun h => absurd h (by decide), inv, Nat.le_refl 1, Nat.le_refl 6⟩
    · exact ⟨.inl 1, 2, m1, v4, m2, W_declares_1 l hl0 G a1 a2 a3 a4 a5 mem m1 e1, e2, hz, fun h => absurd h (by decide), inv, Nat.le_refl 1, Nat.le_refl 6⟩
  | inr v =>
    obtain ⟨hz, hv⟩ := ans
    subst hv
    exact ⟨.inr none, 0, sL m1 91 0 (b2l v), v, mL m2 (sL m1 91 0 (b2l v)).2.1, W_declares_n l hl0 G a1 a2 a3 a4 a5 mem v m1 e1, so_eq (lc_M_declares _ a1 a2 a3 a4 a5 m1) e2, hz, fun _ => gL_out, inv_out inv (so_same (F := fun m => F_M_declares a1 a2 a3 a4 a5 m) (lc_M_declares m1.2.1 a1 a2 a3 a4 a5 m1) e2), Nat.zero_le _, Nat.zero_le _⟩
theorem P_when (l : Launch) (hl0 : l.stackTraces = false) (G : GG) {B : Nat} {mem : Mem} (hI : Inv B mem) (hB : B ≤ 100000) (a1 : Int32) (a2 : Int32) : ∃ (o4 : Ou) (z4 : Int32) (m3 : Mem) (v4 : Int32) (m4 : Mem), Wt l G yL_when cL_when 5 [(0, 10, 13, 24), (0, 10, 17, 13)] 294 [.ref (G.2.1 + 0), .int a1, .int a2, .ref (G.2.1 + 91)] mem o4 z4 m3 ∧ F_M_when a1 a2 m3 = some (v4, m4) ∧ gI m4 78 0 = z4 ∧ (z4 = 0 → gL m4 91 0 = v4.toInt64) ∧ Inv (B + 101) m4 ∧ cxO o4 ≤ 1 ∧ sxO o4 ≤ 6 := by
  obtain ⟨law, n, mg, wd, tx, bc, t, iv⟩ := hI
  obtain ⟨rT, m1, e1, v4, m2, e2, ans, inv⟩ := when_op iv (by omega) a1 a2
  have inv : Inv (B + 101) m2 := inv.up (by omega)
  cases rT with
  | inl ke =>
    obtain ⟨ha, hz⟩ := ans
    have hk : ke = 2 ∨ ke = 1 := by
      exact nx_when _ _ e1
    rcases hk with rfl | rfl
    · exact ⟨.inl 2, 1, m1, v4, m2, W_when_2 l hl0 G a1 a2 mem m1 e1, e2, hz, fun h => absurd h (by decide), inv, Nat.le_refl 1, Nat.le_refl 6⟩
    · exact ⟨.inl 1, 2, m1, v4, m2, W_when_1 l hl0 G a1 a2 mem m1 e1, e2, hz, fun h => absurd h (by decide), inv, Nat.le_refl 1, Nat.le_refl 6⟩
  | inr v =>
    obtain ⟨hz, hv⟩ := ans
    subst hv
    exact ⟨.inr none, 0, sL m1 91 0 (v.toInt64), v, mL m2 (sL m1 91 0 (v.toInt64)).2.1, W_when_n l hl0 G a1 a2 mem v m1 e1, so_eq (lc_M_when _ a1 a2 m1) e2, hz, fun _ => gL_out, inv_out inv (so_same (F := fun m => F_M_when a1 a2 m) (lc_M_when m1.2.1 a1 a2 m1) e2), Nat.zero_le _, Nat.zero_le _⟩
theorem P_enforces (l : Launch) (hl0 : l.stackTraces = false) (G : GG) {B : Nat} {mem : Mem} (hI : Inv B mem) (hB : B ≤ 100000) (a1 : Int32) (a2 : Int32) : ∃ (o4 : Ou) (z4 : Int32) (m3 : Mem) (v4 : Bool) (m4 : Mem), Wt l G yL_enforces cL_enforces 5 [(0, 17, 20, 24), (0, 17, 24, 13)] 293 [.ref (G.2.1 + 0), .int a1, .int a2, .ref (G.2.1 + 91)] mem o4 z4 m3 ∧ F_M_enforces a1 a2 m3 = some (v4, m4) ∧ gI m4 78 0 = z4 ∧ (z4 = 0 → gL m4 91 0 = b2l v4) ∧ Inv (B + 101) m4 ∧ cxO o4 ≤ 1 ∧ sxO o4 ≤ 6 := by
  obtain ⟨law, n, mg, wd, tx, bc, t, iv⟩ := hI
  obtain ⟨rT, m1, e1, v4, m2, e2, ans, inv⟩ := enforces_op iv (by omega) a1 a2
  have inv : Inv (B + 101) m2 := inv.up (by omega)
  cases rT with
  | inl ke =>
    obtain ⟨ha, hz⟩ := ans
    have hk : ke = 2 ∨ ke = 1 := by
      exact nx_enforces _ _ e1
    rcases hk with rfl | rfl
    · exact ⟨.inl 2, 1, m1, v4, m2, W_enforces_2 l hl0 G a1 a2 mem m1 e1, e2, hz, fun h => absurd h (by decide), inv, Nat.le_refl 1, Nat.le_refl 6⟩
    · exact ⟨.inl 1, 2, m1, v4, m2, W_enforces_1 l hl0 G a1 a2 mem m1 e1, e2, hz, fun h => absurd h (by decide), inv, Nat.le_refl 1, Nat.le_refl 6⟩
  | inr v =>
    obtain ⟨hz, hv⟩ := ans
    subst hv
    exact ⟨.inr none, 0, sL m1 91 0 (b2l v), v, mL m2 (sL m1 91 0 (b2l v)).2.1, W_enforces_n l hl0 G a1 a2 mem v m1 e1, so_eq (lc_M_enforces _ a1 a2 m1) e2, hz, fun _ => gL_out, inv_out inv (so_same (F := fun m => F_M_enforces a1 a2 m) (lc_M_enforces m1.2.1 a1 a2 m1) e2), Nat.zero_le _, Nat.zero_le _⟩
theorem P_chased (l : Launch) (hl0 : l.stackTraces = false) (G : GG) {B : Nat} {mem : Mem} (hI : Inv B mem) (hB : B ≤ 100000) (a1 : Int32) : ∃ (o4 : Ou) (z4 : Int32) (m3 : Mem) (v4 : Int32) (m4 : Mem), Wt l G yL_chased cL_chased 4 [(0, 9, 12, 24)] 289 [.ref (G.2.1 + 0), .int a1, .ref (G.2.1 + 91)] mem o4 z4 m3 ∧ F_M_chased a1 m3 = some (v4, m4) ∧ gI m4 78 0 = z4 ∧ (z4 = 0 → gL m4 91 0 = v4.toInt64) ∧ Inv (B + 101) m4 ∧ cxO o4 ≤ 1 ∧ sxO o4 ≤ 6 := by
  obtain ⟨law, n, mg, wd, tx, bc, t, iv⟩ := hI
  obtain ⟨rT, m1, e1, v4, m2, e2, ans, inv⟩ := chased_op iv (by omega) a1
  have inv : Inv (B + 101) m2 := inv.up (by omega)
  cases rT with
  | inl ke =>
    obtain ⟨ha, hz⟩ := ans
    have hk : ke = 2 := by
      exact nx_chased _ _ e1
    subst hk
    exact ⟨.inl 2, 1, m1, v4, m2, W_chased_2 l hl0 G a1 mem m1 e1, e2, hz, fun h => absurd h (by decide), inv, Nat.le_refl 1, Nat.le_refl 6⟩
  | inr v =>
    obtain ⟨hz, hv⟩ := ans
    subst hv
    exact ⟨.inr none, 0, sL m1 91 0 (v.toInt64), v, mL m2 (sL m1 91 0 (v.toInt64)).2.1, W_chased_n l hl0 G a1 mem v m1 e1, so_eq (lc_M_chased _ a1 m1) e2, hz, fun _ => gL_out, inv_out inv (so_same (F := fun m => F_M_chased a1 m) (lc_M_chased m1.2.1 a1 m1) e2), Nat.zero_le _, Nat.zero_le _⟩
theorem P_holds (l : Launch) (hl0 : l.stackTraces = false) (G : GG) {B : Nat} {mem : Mem} (hI : Inv B mem) (hB : B ≤ 100000) (a1 : Int32) (a2 : Bool) (a3 : Int32) (a4 : Int32) : ∃ (o4 : Ou) (z4 : Int32) (m3 : Mem) (v4 : Bool) (m4 : Mem), Wt l G yL_holds cL_holds 7 [(0, 21, 24, 24), (0, 21, 28, 13)] 294 [.ref (G.2.1 + 0), .int a1, .int (b2i a2), .int a3, .int a4, .ref (G.2.1 + 91)] mem o4 z4 m3 ∧ F_M_holds a1 a2 a3 a4 m3 = some (v4, m4) ∧ gI m4 78 0 = z4 ∧ (z4 = 0 → gL m4 91 0 = b2l v4) ∧ Inv (B + 101) m4 ∧ cxO o4 ≤ 1 ∧ sxO o4 ≤ 6 := by
  obtain ⟨law, n, mg, wd, tx, bc, t, iv⟩ := hI
  obtain ⟨rT, m1, e1, v4, m2, e2, ans, inv⟩ := holds_op iv (by omega) a1 a2 a3 a4
  have inv : Inv (B + 101) m2 := inv.up (by omega)
  cases rT with
  | inl ke =>
    obtain ⟨ha, hz⟩ := ans
    have hk : ke = 2 ∨ ke = 1 := by
      exact nx_holds _ _ e1
    rcases hk with rfl | rfl
    · exact ⟨.inl 2, 1, m1, v4, m2, W_holds_2 l hl0 G a1 a2 a3 a4 mem m1 e1, e2, hz, fun h => absurd h (by decide), inv, Nat.le_refl 1, Nat.le_refl 6⟩
    · exact ⟨.inl 1, 2, m1, v4, m2, W_holds_1 l hl0 G a1 a2 a3 a4 mem m1 e1, e2, hz, fun h => absurd h (by decide), inv, Nat.le_refl 1, Nat.le_refl 6⟩
  | inr v =>
    obtain ⟨hz, hv⟩ := ans
    subst hv
    exact ⟨.inr none, 0, sL m1 91 0 (b2l v), v, mL m2 (sL m1 91 0 (b2l v)).2.1, W_holds_n l hl0 G a1 a2 a3 a4 mem v m1 e1, so_eq (lc_M_holds _ a1 a2 a3 a4 m1) e2, hz, fun _ => gL_out, inv_out inv (so_same (F := fun m => F_M_holds a1 a2 a3 a4 m) (lc_M_holds m1.2.1 a1 a2 a3 a4 m1) e2), Nat.zero_le _, Nat.zero_le _⟩
theorem P_turnover (l : Launch) (hl0 : l.stackTraces = false) (G : GG) {B : Nat} {mem : Mem} (hI : Inv B mem) (hB : B ≤ 100000) (a1 : Int32) (a2 : Int32) : ∃ (o4 : Ou) (z4 : Int32) (m3 : Mem) (v4 : Int32) (m4 : Mem), Wt l G yL_turnover cL_turnover 5 [(0, 10, 13, 24), (0, 10, 17, 13)] 294 [.ref (G.2.1 + 0), .int a1, .int a2, .ref (G.2.1 + 91)] mem o4 z4 m3 ∧ F_M_turnover a1 a2 m3 = some (v4, m4) ∧ gI m4 78 0 = z4 ∧ (z4 = 0 → gL m4 91 0 = v4.toInt64) ∧ Inv (B + 101) m4 ∧ cxO o4 ≤ 1 ∧ sxO o4 ≤ 6 := by
  obtain ⟨law, n, mg, wd, tx, bc, t, iv⟩ := hI
  obtain ⟨rT, m1, e1, v4, m2, e2, ans, inv⟩ := turnover_op iv (by omega) a1 a2
  have inv : Inv (B + 101) m2 := inv.up (by omega)
  cases rT with
  | inl ke =>
    obtain ⟨ha, hz⟩ := ans
    have hk : ke = 2 ∨ ke = 1 := by
      exact nx_turnover _ _ e1
    rcases hk with rfl | rfl
    · exact ⟨.inl 2, 1, m1, v4, m2, W_turnover_2 l hl0 G a1 a2 mem m1 e1, e2, hz, fun h => absurd h (by decide), inv, Nat.le_refl 1, Nat.le_refl 6⟩
    · exact ⟨.inl 1, 2, m1, v4, m2, W_turnover_1 l hl0 G a1 a2 mem m1 e1, e2, hz, fun h => absurd h (by decide), inv, Nat.le_refl 1, Nat.le_refl 6⟩
  | inr v =>
    obtain ⟨hz, hv⟩ := ans
    subst hv
    exact ⟨.inr none, 0, sL m1 91 0 (v.toInt64), v, mL m2 (sL m1 91 0 (v.toInt64)).2.1, W_turnover_n l hl0 G a1 a2 mem v m1 e1, so_eq (lc_M_turnover _ a1 a2 m1) e2, hz, fun _ => gL_out, inv_out inv (so_same (F := fun m => F_M_turnover a1 a2 m) (lc_M_turnover m1.2.1 a1 a2 m1) e2), Nat.zero_le _, Nat.zero_le _⟩
theorem P_line (l : Launch) (hl0 : l.stackTraces = false) (G : GG) {B : Nat} {mem : Mem} (hI : Inv B mem) (hB : B ≤ 100000) (a1 : Int32) (a2 : Int32) (a3 : Bool) (a4 : Int32) (a5 : Int32) : ∃ (o4 : Ou) (z4 : Int32) (m3 : Mem) (v4 : Int32) (m4 : Mem), Wt l G yL_line cL_line 8 [(0, 16, 19, 24), (0, 16, 23, 13)] 294 [.ref (G.2.1 + 0), .int a1, .int a2, .int (b2i a3), .int a4, .int a5, .ref (G.2.1 + 91)] mem o4 z4 m3 ∧ F_M_line a1 a2 a3 a4 a5 m3 = some (v4, m4) ∧ gI m4 78 0 = z4 ∧ (z4 = 0 → gL m4 91 0 = v4.toInt64) ∧ Inv (B + 101) m4 ∧ cxO o4 ≤ 1 ∧ sxO o4 ≤ 6 := by
  obtain ⟨law, n, mg, wd, tx, bc, t, iv⟩ := hI
  obtain ⟨rT, m1, e1, v4, m2, e2, ans, inv⟩ := line_op iv (by omega) a1 a2 a3 a4 a5
  have inv : Inv (B + 101) m2 := inv.up (by omega)
  cases rT with
  | inl ke =>
    obtain ⟨ha, hz⟩ := ans
    have hk : ke = 2 ∨ ke = 1 := by
      exact nx_line _ _ e1
    rcases hk with rfl | rfl
    · exact ⟨.inl 2, 1, m1, v4, m2, W_line_2 l hl0 G a1 a2 a3 a4 a5 mem m1 e1, e2, hz, fun h => absurd h (by decide), inv, Nat.le_refl 1, Nat.le_refl 6⟩
    · exact ⟨.inl 1, 2, m1, v4, m2, W_line_1 l hl0 G a1 a2 a3 a4 a5 mem m1 e1, e2, hz, fun h => absurd h (by decide), inv, Nat.le_refl 1, Nat.le_refl 6⟩
  | inr v =>
    obtain ⟨hz, hv⟩ := ans
    subst hv
    exact ⟨.inr none, 0, sL m1 91 0 (v.toInt64), v, mL m2 (sL m1 91 0 (v.toInt64)).2.1, W_line_n l hl0 G a1 a2 a3 a4 a5 mem v m1 e1, so_eq (lc_M_line _ a1 a2 a3 a4 a5 m1) e2, hz, fun _ => gL_out, inv_out inv (so_same (F := fun m => F_M_line a1 a2 a3 a4 a5 m) (lc_M_line m1.2.1 a1 a2 a3 a4 a5 m1) e2), Nat.zero_le _, Nat.zero_le _⟩
theorem P_cost (l : Launch) (hl0 : l.stackTraces = false) (G : GG) {B : Nat} {mem : Mem} (hI : Inv B mem) (hB : B ≤ 100000) (a1 : Int32) : ∃ (o4 : Ou) (z4 : Int32) (m3 : Mem) (v4 : Int64) (m4 : Mem), Wt l G yL_cost cL_cost 4 [(0, 8, 11, 13), (0, 8, 14, 47)] 293 [.ref (G.2.1 + 0), .int a1, .ref (G.2.1 + 91)] mem o4 z4 m3 ∧ F_M_cost a1 m3 = some (v4, m4) ∧ gI m4 78 0 = z4 ∧ (z4 = 0 → gL m4 91 0 = v4) ∧ Inv (B + 101) m4 ∧ cxO o4 ≤ 1 ∧ sxO o4 ≤ 6 := by
  obtain ⟨law, n, mg, wd, tx, bc, t, iv⟩ := hI
  obtain ⟨rT, m1, e1, v4, m2, e2, ans, inv⟩ := cost_op iv (by omega) a1
  have inv : Inv (B + 101) m2 := inv.up (by omega)
  cases rT with
  | inl ke =>
    obtain ⟨ha, hz⟩ := ans
    have hk : ke = 1 ∨ ke = 0 := by
      refine Decidable.byContradiction (fun hn => ?_)
      simp only [not_or] at hn
      obtain ⟨n1, n0⟩ := hn
      simp [cdI, cdS, cdN, cdU, cd12, cdH, cdC, cd1, cdG, n1, n0] at ha
    rcases hk with rfl | rfl
    · exact ⟨.inl 1, 1, m1, v4, m2, W_cost_1 l hl0 G a1 mem m1 e1, e2, hz, fun h => absurd h (by decide), inv, Nat.le_refl 1, Nat.le_refl 6⟩
    · exact ⟨.inl 0, 2, m1, v4, m2, W_cost_0 l hl0 G a1 mem m1 e1, e2, hz, fun h => absurd h (by decide), inv, Nat.le_refl 1, Nat.le_refl 6⟩
  | inr v =>
    obtain ⟨hz, hv⟩ := ans
    subst hv
    exact ⟨.inr none, 0, sL m1 91 0 v, v, mL m2 (sL m1 91 0 v).2.1, W_cost_n l hl0 G a1 mem v m1 e1, so_eq (lc_M_cost _ a1 m1) e2, hz, fun _ => gL_out, inv_out inv (so_same (F := fun m => F_M_cost a1 m) (lc_M_cost m1.2.1 a1 m1) e2), Nat.zero_le _, Nat.zero_le _⟩
theorem P_swing (l : Launch) (hl0 : l.stackTraces = false) (G : GG) {B : Nat} {mem : Mem} (hI : Inv B mem) (hB : B ≤ 100000)  : ∃ (o4 : Ou) (z4 : Int32) (m3 : Mem) (v4 : Int32) (m4 : Mem), Wt l G yL_swing cL_swing 3 [(0, 8, 11, 47), (0, 8, 14, 13)] 10 [.ref (G.2.1 + 0), .ref (G.2.1 + 91)] mem o4 z4 m3 ∧ F_M_swing  m3 = some (v4, m4) ∧ gI m4 78 0 = z4 ∧ (z4 = 0 → gL m4 91 0 = v4.toInt64) ∧ Inv (B + 101) m4 ∧ cxO o4 ≤ 1 ∧ sxO o4 ≤ 6 := by
  obtain ⟨law, n, mg, wd, tx, bc, t, iv⟩ := hI
  obtain ⟨rT, m1, e1, v4, m2, e2, ans, inv⟩ := swing_op iv 
  have inv : Inv (B + 101) m2 := inv.up (by omega)
  cases rT with
  | inl ke =>
    obtain ⟨ha, hz⟩ := ans
    have hk : ke = 0 ∨ ke = 1 := by
      refine Decidable.byContradiction (fun hn => ?_)
      simp only [not_or] at hn
      obtain ⟨n0, n1⟩ := hn
      simp [cdI, cdS, cdN, cdU, cd12, cdH, cdC, cd1, cdG, n0, n1] at ha
    rcases hk with rfl | rfl
    · exact ⟨.inl 0, 1, m1, v4, m2, W_swing_0 l hl0 G  mem m1 e1, e2, hz, fun h => absurd h (by decide), inv, Nat.le_refl 1, Nat.le_refl 6⟩
    · exact ⟨.inl 1, 2, m1, v4, m2, W_swing_1 l hl0 G  mem m1 e1, e2, hz, fun h => absurd h (by decide), inv, Nat.le_refl 1, Nat.le_refl 6⟩
  | inr v =>
    obtain ⟨hz, hv⟩ := ans
    subst hv
    exact ⟨.inr none, 0, sL m1 91 0 (v.toInt64), v, mL m2 (sL m1 91 0 (v.toInt64)).2.1, W_swing_n l hl0 G  mem v m1 e1, so_eq (lc_M_swing _  m1) e2, hz, fun _ => gL_out, inv_out inv (so_same (F := fun m => F_M_swing  m) (lc_M_swing m1.2.1  m1) e2), Nat.zero_le _, Nat.zero_le _⟩
theorem P_book (l : Launch) (hl0 : l.stackTraces = false) (G : GG) {B : Nat} {mem : Mem} (hI : Inv B mem) (hB : B ≤ 100000) (a1 : Int32) : ∃ (o4 : Ou) (z4 : Int32) (m3 : Mem) (v4 : Int32) (m4 : Mem), Wt l G yL_book cL_book 4 [(0, 9, 12, 34)] 9 [.ref (G.2.1 + 0), .int a1, .ref (G.2.1 + 91)] mem o4 z4 m3 ∧ F_M_book a1 m3 = some (v4, m4) ∧ gI m4 78 0 = z4 ∧ (z4 = 0 → gL m4 91 0 = v4.toInt64) ∧ Inv (B + 101) m4 ∧ cxO o4 ≤ 1 ∧ sxO o4 ≤ 6 := by
  obtain ⟨law, n, mg, wd, tx, bc, t, iv⟩ := hI
  obtain ⟨rT, m1, e1, v4, m2, e2, ans, inv⟩ := book_op iv a1
  have inv : Inv (B + 101) m2 := inv.up (by omega)
  cases rT with
  | inl ke =>
    obtain ⟨ha, hz⟩ := ans
    have hk : ke = 4 := by
      refine Decidable.byContradiction (fun hn => ?_)
      have n4 := hn
      simp [cdI, cdS, cdN, cdU, cd12, cdH, cdC, cd1, cdG, n4] at ha
    subst hk
    exact ⟨.inl 4, 1, m1, v4, m2, W_book_4 l hl0 G a1 mem m1 e1, e2, hz, fun h => absurd h (by decide), inv, Nat.le_refl 1, Nat.le_refl 6⟩
  | inr v =>
    obtain ⟨hz, hv⟩ := ans
    subst hv
    exact ⟨.inr none, 0, sL m1 91 0 (v.toInt64), v, mL m2 (sL m1 91 0 (v.toInt64)).2.1, W_book_n l hl0 G a1 mem v m1 e1, so_eq (lc_M_book _ a1 m1) e2, hz, fun _ => gL_out, inv_out inv (so_same (F := fun m => F_M_book a1 m) (lc_M_book m1.2.1 a1 m1) e2), Nat.zero_le _, Nat.zero_le _⟩
theorem P_share (l : Launch) (hl0 : l.stackTraces = false) (G : GG) {B : Nat} {mem : Mem} (hI : Inv B mem) (hB : B ≤ 100000) (a1 : Int32) (a2 : Int32) : ∃ (o4 : Ou) (z4 : Int32) (m3 : Mem) (v4 : Int32) (m4 : Mem), Wt l G yL_share cL_share 5 [(0, 10, 13, 34)] 9 [.ref (G.2.1 + 0), .int a1, .int a2, .ref (G.2.1 + 91)] mem o4 z4 m3 ∧ F_M_share a1 a2 m3 = some (v4, m4) ∧ gI m4 78 0 = z4 ∧ (z4 = 0 → gL m4 91 0 = v4.toInt64) ∧ Inv (B + 101) m4 ∧ cxO o4 ≤ 1 ∧ sxO o4 ≤ 6 := by
  obtain ⟨law, n, mg, wd, tx, bc, t, iv⟩ := hI
  obtain ⟨rT, m1, e1, v4, m2, e2, ans, inv⟩ := share_op iv a1 a2
  have inv : Inv (B + 101) m2 := inv.up (by omega)
  cases rT with
  | inl ke =>
    obtain ⟨ha, hz⟩ := ans
    have hk : ke = 4 := by
      refine Decidable.byContradiction (fun hn => ?_)
      have n4 := hn
      simp [cdI, cdS, cdN, cdU, cd12, cdH, cdC, cd1, cdG, n4] at ha
    subst hk
    exact ⟨.inl 4, 1, m1, v4, m2, W_share_4 l hl0 G a1 a2 mem m1 e1, e2, hz, fun h => absurd h (by decide), inv, Nat.le_refl 1, Nat.le_refl 6⟩
  | inr v =>
    obtain ⟨hz, hv⟩ := ans
    subst hv
    exact ⟨.inr none, 0, sL m1 91 0 (v.toInt64), v, mL m2 (sL m1 91 0 (v.toInt64)).2.1, W_share_n l hl0 G a1 a2 mem v m1 e1, so_eq (lc_M_share _ a1 a2 m1) e2, hz, fun _ => gL_out, inv_out inv (so_same (F := fun m => F_M_share a1 a2 m) (lc_M_share m1.2.1 a1 a2 m1) e2), Nat.zero_le _, Nat.zero_le _⟩
theorem P_signs (l : Launch) (hl0 : l.stackTraces = false) (G : GG) {B : Nat} {mem : Mem} (hI : Inv B mem) (hB : B ≤ 100000) (a1 : Int32) (a2 : Int32) (a3 : Bool) : ∃ (o4 : Ou) (z4 : Int32) (m3 : Mem) (v4 : Int32) (m4 : Mem), Wt l G yL_signs cL_signs 6 [(0, 12, 15, 13)] 9 [.ref (G.2.1 + 0), .int a1, .int a2, .int (b2i a3), .ref (G.2.1 + 91)] mem o4 z4 m3 ∧ F_M_signs a1 a2 a3 m3 = some (v4, m4) ∧ gI m4 78 0 = z4 ∧ (z4 = 0 → gL m4 91 0 = v4.toInt64) ∧ Inv (B + 101) m4 ∧ cxO o4 ≤ 1 ∧ sxO o4 ≤ 6 := by
  obtain ⟨law, n, mg, wd, tx, bc, t, iv⟩ := hI
  obtain ⟨rT, m1, e1, v4, m2, e2, ans, inv⟩ := signs_op iv a1 a2 a3
  have inv : Inv (B + 101) m2 := inv.up (by omega)
  cases rT with
  | inl ke =>
    obtain ⟨ha, hz⟩ := ans
    have hk : ke = 1 := by
      refine Decidable.byContradiction (fun hn => ?_)
      have n1 := hn
      simp [cdI, cdS, cdN, cdU, cd12, cdH, cdC, cd1, cdG, n1] at ha
    subst hk
    exact ⟨.inl 1, 1, m1, v4, m2, W_signs_1 l hl0 G a1 a2 a3 mem m1 e1, e2, hz, fun h => absurd h (by decide), inv, Nat.le_refl 1, Nat.le_refl 6⟩
  | inr v =>
    obtain ⟨hz, hv⟩ := ans
    subst hv
    exact ⟨.inr none, 0, sL m1 91 0 (v.toInt64), v, mL m2 (sL m1 91 0 (v.toInt64)).2.1, W_signs_n l hl0 G a1 a2 a3 mem v m1 e1, so_eq (lc_M_signs _ a1 a2 a3 m1) e2, hz, fun _ => gL_out, inv_out inv (so_same (F := fun m => F_M_signs a1 a2 a3 m) (lc_M_signs m1.2.1 a1 a2 a3 m1) e2), Nat.zero_le _, Nat.zero_le _⟩
theorem P_best (l : Launch) (hl0 : l.stackTraces = false) (G : GG) {B : Nat} {mem : Mem} (hI : Inv B mem) (hB : B ≤ 100000) (a1 : Bool) (a2 : Bool) : ∃ (o4 : Ou) (z4 : Int32) (m3 : Mem) (v4 : Int32) (m4 : Mem), Wt l G yL_best cL_best 5 [(0, 10, 13, 13)] 9 [.ref (G.2.1 + 0), .int (b2i a1), .int (b2i a2), .ref (G.2.1 + 91)] mem o4 z4 m3 ∧ F_M_best a1 a2 m3 = some (v4, m4) ∧ gI m4 78 0 = z4 ∧ (z4 = 0 → gL m4 91 0 = v4.toInt64) ∧ Inv (B + 101) m4 ∧ cxO o4 ≤ 1 ∧ sxO o4 ≤ 6 := by
  obtain ⟨law, n, mg, wd, tx, bc, t, iv⟩ := hI
  obtain ⟨rT, m1, e1, v4, m2, e2, ans, inv⟩ := best_op iv a1 a2
  have inv : Inv (B + 101) m2 := inv.up (by omega)
  cases rT with
  | inl ke =>
    obtain ⟨ha, hz⟩ := ans
    have hk : ke = 1 := by
      refine Decidable.byContradiction (fun hn => ?_)
      have n1 := hn
      simp [cdI, cdS, cdN, cdU, cd12, cdH, cdC, cd1, cdG, n1] at ha
    subst hk
    exact ⟨.inl 1, 1, m1, v4, m2, W_best_1 l hl0 G a1 a2 mem m1 e1, e2, hz, fun h => absurd h (by decide), inv, Nat.le_refl 1, Nat.le_refl 6⟩
  | inr v =>
    obtain ⟨hz, hv⟩ := ans
    subst hv
    exact ⟨.inr none, 0, sL m1 91 0 (v.toInt64), v, mL m2 (sL m1 91 0 (v.toInt64)).2.1, W_best_n l hl0 G a1 a2 mem v m1 e1, so_eq (lc_M_best _ a1 a2 m1) e2, hz, fun _ => gL_out, inv_out inv (so_same (F := fun m => F_M_best a1 a2 m) (lc_M_best m1.2.1 a1 a2 m1) e2), Nat.zero_le _, Nat.zero_le _⟩
theorem P_blind (l : Launch) (hl0 : l.stackTraces = false) (G : GG) {B : Nat} {mem : Mem} (hI : Inv B mem) (hB : B ≤ 100000) (a1 : Int32) : ∃ (o4 : Ou) (z4 : Int32) (m3 : Mem) (v4 : Int64) (m4 : Mem), Wt l G yL_blind cL_blind 4 [(0, 8, 11, 47), (0, 8, 14, 34)] 289 [.ref (G.2.1 + 0), .int a1, .ref (G.2.1 + 91)] mem o4 z4 m3 ∧ F_M_blind a1 m3 = some (v4, m4) ∧ gI m4 78 0 = z4 ∧ (z4 = 0 → gL m4 91 0 = v4) ∧ Inv (B + 101) m4 ∧ cxO o4 ≤ 1 ∧ sxO o4 ≤ 6 := by
  obtain ⟨law, n, mg, wd, tx, bc, t, iv⟩ := hI
  obtain ⟨rT, m1, e1, v4, m2, e2, ans, inv⟩ := blind_op iv (by omega) a1
  have inv : Inv (B + 101) m2 := inv.up (by omega)
  cases rT with
  | inl ke =>
    obtain ⟨ha, hz⟩ := ans
    have hk : ke = 0 ∨ ke = 4 := by
      refine Decidable.byContradiction (fun hn => ?_)
      simp only [not_or] at hn
      obtain ⟨n0, n4⟩ := hn
      simp [cdI, cdS, cdN, cdU, cd12, cdH, cdC, cd1, cdG, n0, n4] at ha
    rcases hk with rfl | rfl
    · exact ⟨.inl 0, 1, m1, v4, m2, W_blind_0 l hl0 G a1 mem m1 e1, e2, hz, fun h => absurd h (by decide), inv, Nat.le_refl 1, Nat.le_refl 6⟩
    · exact ⟨.inl 4, 2, m1, v4, m2, W_blind_4 l hl0 G a1 mem m1 e1, e2, hz, fun h => absurd h (by decide), inv, Nat.le_refl 1, Nat.le_refl 6⟩
  | inr v =>
    obtain ⟨hz, hv⟩ := ans
    subst hv
    exact ⟨.inr none, 0, sL m1 91 0 v, v, mL m2 (sL m1 91 0 v).2.1, W_blind_n l hl0 G a1 mem v m1 e1, so_eq (lc_M_blind _ a1 m1) e2, hz, fun _ => gL_out, inv_out inv (so_same (F := fun m => F_M_blind a1 m) (lc_M_blind m1.2.1 a1 m1) e2), Nat.zero_le _, Nat.zero_le _⟩
theorem P_target (l : Launch) (hl0 : l.stackTraces = false) (G : GG) {B : Nat} {mem : Mem} (hI : Inv B mem) (hB : B ≤ 100000) (a1 : Bool) : ∃ (o4 : Ou) (z4 : Int32) (m3 : Mem) (v4 : Int32) (m4 : Mem), Wt l G yL_target cL_target 4 [(0, 9, 12, 47)] 10 [.ref (G.2.1 + 0), .int (b2i a1), .ref (G.2.1 + 91)] mem o4 z4 m3 ∧ F_M_target a1 m3 = some (v4, m4) ∧ gI m4 78 0 = z4 ∧ (z4 = 0 → gL m4 91 0 = v4.toInt64) ∧ Inv (B + 101) m4 ∧ cxO o4 ≤ 1 ∧ sxO o4 ≤ 6 := by
  obtain ⟨law, n, mg, wd, tx, bc, t, iv⟩ := hI
  obtain ⟨rT, m1, e1, v4, m2, e2, ans, inv⟩ := target_op iv a1
  have inv : Inv (B + 101) m2 := inv.up (by omega)
  cases rT with
  | inl ke =>
    obtain ⟨ha, hz⟩ := ans
    have hk : ke = 0 := by
      refine Decidable.byContradiction (fun hn => ?_)
      have n0 := hn
      simp [cdI, cdS, cdN, cdU, cd12, cdH, cdC, cd1, cdG, n0] at ha
    subst hk
    exact ⟨.inl 0, 1, m1, v4, m2, W_target_0 l hl0 G a1 mem m1 e1, e2, hz, fun h => absurd h (by decide), inv, Nat.le_refl 1, Nat.le_refl 6⟩
  | inr v =>
    obtain ⟨hz, hv⟩ := ans
    subst hv
    exact ⟨.inr none, 0, sL m1 91 0 (v.toInt64), v, mL m2 (sL m1 91 0 (v.toInt64)).2.1, W_target_n l hl0 G a1 mem v m1 e1, so_eq (lc_M_target _ a1 m1) e2, hz, fun _ => gL_out, inv_out inv (so_same (F := fun m => F_M_target a1 m) (lc_M_target m1.2.1 a1 m1) e2), Nat.zero_le _, Nat.zero_le _⟩
theorem P_streak (l : Launch) (hl0 : l.stackTraces = false) (G : GG) {B : Nat} {mem : Mem} (hI : Inv B mem) (hB : B ≤ 100000) (a1 : Int32) : ∃ (o4 : Ou) (z4 : Int32) (m3 : Mem) (v4 : Int32) (m4 : Mem), Wt l G yL_streak cL_streak 4 [(0, 9, 12, 34)] 9 [.ref (G.2.1 + 0), .int a1, .ref (G.2.1 + 91)] mem o4 z4 m3 ∧ F_M_streak a1 m3 = some (v4, m4) ∧ gI m4 78 0 = z4 ∧ (z4 = 0 → gL m4 91 0 = v4.toInt64) ∧ Inv (B + 101) m4 ∧ cxO o4 ≤ 1 ∧ sxO o4 ≤ 6 := by
  obtain ⟨law, n, mg, wd, tx, bc, t, iv⟩ := hI
  obtain ⟨rT, m1, e1, v4, m2, e2, ans, inv⟩ := streak_op iv a1
  have inv : Inv (B + 101) m2 := inv.up (by omega)
  cases rT with
  | inl ke =>
    obtain ⟨ha, hz⟩ := ans
    have hk : ke = 4 := by
      refine Decidable.byContradiction (fun hn => ?_)
      have n4 := hn
      simp [cdI, cdS, cdN, cdU, cd12, cdH, cdC, cd1, cdG, n4] at ha
    subst hk
    exact ⟨.inl 4, 1, m1, v4, m2, W_streak_4 l hl0 G a1 mem m1 e1, e2, hz, fun h => absurd h (by decide), inv, Nat.le_refl 1, Nat.le_refl 6⟩
  | inr v =>
    obtain ⟨hz, hv⟩ := ans
    subst hv
    exact ⟨.inr none, 0, sL m1 91 0 (v.toInt64), v, mL m2 (sL m1 91 0 (v.toInt64)).2.1, W_streak_n l hl0 G a1 mem v m1 e1, so_eq (lc_M_streak _ a1 m1) e2, hz, fun _ => gL_out, inv_out inv (so_same (F := fun m => F_M_streak a1 m) (lc_M_streak m1.2.1 a1 m1) e2), Nat.zero_le _, Nat.zero_le _⟩
theorem P_table (l : Launch) (hl0 : l.stackTraces = false) (G : GG) {B : Nat} {mem : Mem} (hI : Inv B mem) (hB : B ≤ 100000) (a1 : Int32) (a2 : Int32) (a3 : Int32) (a4 : Bool) : ∃ (o4 : Ou) (z4 : Int32) (m3 : Mem) (v4 : Int32) (m4 : Mem), Wt l G yL_table cL_table 7 [(0, 14, 17, 24)] 10 [.ref (G.2.1 + 0), .int a1, .int a2, .int a3, .int (b2i a4), .ref (G.2.1 + 91)] mem o4 z4 m3 ∧ F_M_table a1 a2 a3 a4 m3 = some (v4, m4) ∧ gI m4 78 0 = z4 ∧ (z4 = 0 → gL m4 91 0 = v4.toInt64) ∧ Inv (B + 101) m4 ∧ cxO o4 ≤ 1 ∧ sxO o4 ≤ 6 := by
  obtain ⟨law, n, mg, wd, tx, bc, t, iv⟩ := hI
  obtain ⟨rT, m1, e1, v4, m2, e2, ans, inv⟩ := table_op iv a1 a2 a3 a4
  have inv : Inv (B + 101) m2 := inv.up (by omega)
  cases rT with
  | inl ke =>
    obtain ⟨ha, hz⟩ := ans
    have hk : ke = 2 := by
      refine Decidable.byContradiction (fun hn => ?_)
      have n2 := hn
      simp [cdI, cdS, cdN, cdU, cd12, cdH, cdC, cd1, cdG, n2] at ha
    subst hk
    exact ⟨.inl 2, 1, m1, v4, m2, W_table_2 l hl0 G a1 a2 a3 a4 mem m1 e1, e2, hz, fun h => absurd h (by decide), inv, Nat.le_refl 1, Nat.le_refl 6⟩
  | inr v =>
    obtain ⟨hz, hv⟩ := ans
    subst hv
    exact ⟨.inr none, 0, sL m1 91 0 (v.toInt64), v, mL m2 (sL m1 91 0 (v.toInt64)).2.1, W_table_n l hl0 G a1 a2 a3 a4 mem v m1 e1, so_eq (lc_M_table _ a1 a2 a3 a4 m1) e2, hz, fun _ => gL_out, inv_out inv (so_same (F := fun m => F_M_table a1 a2 a3 a4 m) (lc_M_table m1.2.1 a1 a2 a3 a4 m1) e2), Nat.zero_le _, Nat.zero_le _⟩
theorem P_form (l : Launch) (hl0 : l.stackTraces = false) (G : GG) {B : Nat} {mem : Mem} (hI : Inv B mem) (hB : B ≤ 100000) (a1 : Int32) (a2 : Int32) : ∃ (o4 : Ou) (z4 : Int32) (m3 : Mem) (v4 : Int32) (m4 : Mem), Wt l G yL_form cL_form 5 [(0, 10, 13, 24), (0, 10, 17, 13)] 10 [.ref (G.2.1 + 0), .int a1, .int a2, .ref (G.2.1 + 91)] mem o4 z4 m3 ∧ F_M_form a1 a2 m3 = some (v4, m4) ∧ gI m4 78 0 = z4 ∧ (z4 = 0 → gL m4 91 0 = v4.toInt64) ∧ Inv (B + 101) m4 ∧ cxO o4 ≤ 1 ∧ sxO o4 ≤ 6 := by
  obtain ⟨law, n, mg, wd, tx, bc, t, iv⟩ := hI
  obtain ⟨rT, m1, e1, v4, m2, e2, ans, inv⟩ := form_op iv a1 a2
  have inv : Inv (B + 101) m2 := inv.up (by omega)
  cases rT with
  | inl ke =>
    obtain ⟨ha, hz⟩ := ans
    have hk : ke = 2 ∨ ke = 1 := by
      refine Decidable.byContradiction (fun hn => ?_)
      simp only [not_or] at hn
      obtain ⟨n2, n1⟩ := hn
      simp [cdI, cdS, cdN, cdU, cd12, cdH, cdC, cd1, cdG, n2, n1] at ha
    rcases hk with rfl | rfl
    · exact ⟨.inl 2, 1, m1, v4, m2, W_form_2 l hl0 G a1 a2 mem m1 e1, e2, hz, fun h => absurd h (by decide), inv, Nat.le_refl 1, Nat.le_refl 6⟩
    · exact ⟨.inl 1, 2, m1, v4, m2, W_form_1 l hl0 G a1 a2 mem m1 e1, e2, hz, fun h => absurd h (by decide), inv, Nat.le_refl 1, Nat.le_refl 6⟩
  | inr v =>
    obtain ⟨hz, hv⟩ := ans
    subst hv
    exact ⟨.inr none, 0, sL m1 91 0 (v.toInt64), v, mL m2 (sL m1 91 0 (v.toInt64)).2.1, W_form_n l hl0 G a1 a2 mem v m1 e1, so_eq (lc_M_form _ a1 a2 m1) e2, hz, fun _ => gL_out, inv_out inv (so_same (F := fun m => F_M_form a1 a2 m) (lc_M_form m1.2.1 a1 a2 m1) e2), Nat.zero_le _, Nat.zero_le _⟩
theorem P_hardest (l : Launch) (hl0 : l.stackTraces = false) (G : GG) {B : Nat} {mem : Mem} (hI : Inv B mem) (hB : B ≤ 100000) (a1 : Int32) (a2 : Int32) : ∃ (o4 : Ou) (z4 : Int32) (m3 : Mem) (v4 : Int32) (m4 : Mem), Wt l G yL_hardest cL_hardest 5 [(0, 10, 13, 24)] 10 [.ref (G.2.1 + 0), .int a1, .int a2, .ref (G.2.1 + 91)] mem o4 z4 m3 ∧ F_M_hardest a1 a2 m3 = some (v4, m4) ∧ gI m4 78 0 = z4 ∧ (z4 = 0 → gL m4 91 0 = v4.toInt64) ∧ Inv (B + 101) m4 ∧ cxO o4 ≤ 1 ∧ sxO o4 ≤ 6 := by
  obtain ⟨law, n, mg, wd, tx, bc, t, iv⟩ := hI
  obtain ⟨rT, m1, e1, v4, m2, e2, ans, inv⟩ := hardest_op iv a1 a2
  have inv : Inv (B + 101) m2 := inv.up (by omega)
  cases rT with
  | inl ke =>
    obtain ⟨ha, hz⟩ := ans
    have hk : ke = 2 := by
      refine Decidable.byContradiction (fun hn => ?_)
      have n2 := hn
      simp [cdI, cdS, cdN, cdU, cd12, cdH, cdC, cd1, cdG, n2] at ha
    subst hk
    exact ⟨.inl 2, 1, m1, v4, m2, W_hardest_2 l hl0 G a1 a2 mem m1 e1, e2, hz, fun h => absurd h (by decide), inv, Nat.le_refl 1, Nat.le_refl 6⟩
  | inr v =>
    obtain ⟨hz, hv⟩ := ans
    subst hv
    exact ⟨.inr none, 0, sL m1 91 0 (v.toInt64), v, mL m2 (sL m1 91 0 (v.toInt64)).2.1, W_hardest_n l hl0 G a1 a2 mem v m1 e1, so_eq (lc_M_hardest _ a1 a2 m1) e2, hz, fun _ => gL_out, inv_out inv (so_same (F := fun m => F_M_hardest a1 a2 m) (lc_M_hardest m1.2.1 a1 a2 m1) e2), Nat.zero_le _, Nat.zero_le _⟩
theorem P_log (l : Launch) (hl0 : l.stackTraces = false) (G : GG) {B : Nat} {mem : Mem} (hI : Inv B mem) (hB : B ≤ 100000) (a1 : Int32) (a2 : Int32) : ∃ (o4 : Ou) (z4 : Int32) (m3 : Mem) (v4 : Int32) (m4 : Mem), Wt l G yL_log cL_log 5 [(0, 10, 13, 34)] 9 [.ref (G.2.1 + 0), .int a1, .int a2, .ref (G.2.1 + 91)] mem o4 z4 m3 ∧ F_M_log a1 a2 m3 = some (v4, m4) ∧ gI m4 78 0 = z4 ∧ (z4 = 0 → gL m4 91 0 = v4.toInt64) ∧ Inv (B + 101) m4 ∧ cxO o4 ≤ 1 ∧ sxO o4 ≤ 6 := by
  obtain ⟨law, n, mg, wd, tx, bc, t, iv⟩ := hI
  obtain ⟨rT, m1, e1, v4, m2, e2, ans, inv⟩ := log_op iv a1 a2
  have inv : Inv (B + 101) m2 := inv.up (by omega)
  cases rT with
  | inl ke =>
    obtain ⟨ha, hz⟩ := ans
    have hk : ke = 4 := by
      refine Decidable.byContradiction (fun hn => ?_)
      have n4 := hn
      simp [cdI, cdS, cdN, cdU, cd12, cdH, cdC, cd1, cdG, n4] at ha
    subst hk
    exact ⟨.inl 4, 1, m1, v4, m2, W_log_4 l hl0 G a1 a2 mem m1 e1, e2, hz, fun h => absurd h (by decide), inv, Nat.le_refl 1, Nat.le_refl 6⟩
  | inr v =>
    obtain ⟨hz, hv⟩ := ans
    subst hv
    exact ⟨.inr none, 0, sL m1 91 0 (v.toInt64), v, mL m2 (sL m1 91 0 (v.toInt64)).2.1, W_log_n l hl0 G a1 a2 mem v m1 e1, so_eq (lc_M_log _ a1 a2 m1) e2, hz, fun _ => gL_out, inv_out inv (so_same (F := fun m => F_M_log a1 a2 m) (lc_M_log m1.2.1 a1 a2 m1) e2), Nat.zero_le _, Nat.zero_le _⟩
