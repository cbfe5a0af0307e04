section LAWR
theorem okT_step (fact : Int → Int32) {c : Int} {cs : List Int} {ts : List Bool} {st : List Int32} (htv : TV ts st) (hok : okT (c :: cs) ts) (hb : ∀ k : Int, k = 1006 ∨ k = 1007 → fact k = 0 ∨ fact k = 1) : st.length < 60 ∧ 0 ≤ c ∧ (c < 1008 ∨ (1100 ≤ c ∧ c < 1106)) ∧ (c < 1008 ∨ (c = 1100 ∧ 1 ≤ st.length) ∨ (1101 ≤ c ∧ 2 ≤ st.length)) ∧ ((c = 1101 ∨ c = 1102) → ∀ a v r, st = a :: v :: r → (a = 0 ∨ a = 1) ∧ (v = 0 ∨ v = 1)) ∧ ∃ ts', okT cs ts' ∧ TV ts' (stS fact c st) := by
  have hlen := TV_len htv
  obtain ⟨hl, hcase⟩ := hok
  refine ⟨by omega, ?_⟩
  rcases hcase with ⟨a1, a2, a3⟩ | ⟨a1, a3⟩ | ⟨a1, r, rfl, a3⟩ | ⟨a1, r, rfl, a3⟩ | ⟨a1, r, rfl, a3⟩ | ⟨a1, r, rfl, a3⟩
  · refine ⟨a1, by omega, Or.inl (by omega), fun h => by omega, _, a3, ?_⟩
    simp only [stS, if_pos (show c < 1008 by omega)]
    exact ⟨fun h => absurd h (by decide), htv⟩
  · refine ⟨by omega, by omega, Or.inl (by omega), fun h => by omega, _, a3, ?_⟩
    simp only [stS, if_pos (show c < 1008 by omega), if_neg (show ¬ c < 1000 by omega)]
    exact ⟨fun _ => hb c a1, htv⟩
  · match st, htv, hlen with
    | a :: s, htv, hlen =>
      refine ⟨by omega, by omega, Or.inr (Or.inl ⟨a1, by simp⟩), fun h => by omega, _, a3, ?_⟩
      simp only [stS, if_neg (show ¬ c < 1008 by omega), if_pos a1]
      refine ⟨fun _ => ?_, htv.2⟩
      rcases htv.1 rfl with h | h <;> rw [h]
      · exact Or.inr rfl
      · exact Or.inl rfl
  · match st, htv, hlen with
    | a :: b :: s, htv, hlen =>
      refine ⟨by omega, by omega, Or.inr (Or.inr ⟨by omega, by simp⟩), ?_, _, a3, ?_⟩
      · intro _ a' v' r' e
        cases e
        exact ⟨htv.1 rfl, htv.2.1 rfl⟩
      · simp only [stS, if_neg (show ¬ c < 1008 by omega), if_neg (show ¬ c = 1100 by omega)]
        refine ⟨fun _ => ?_, htv.2.2⟩
        rcases htv.1 rfl with h | h <;> rcases htv.2.1 rfl with h' | h' <;> rcases a1 with a1 | a1 <;> rw [h, h', a1] <;> first | exact Or.inl rfl | exact Or.inr rfl
  · match st, htv, hlen with
    | a :: b :: s, htv, hlen =>
      refine ⟨by omega, by omega, Or.inr (Or.inr ⟨by omega, by simp⟩), fun h => by omega, _, a3, ?_⟩
      simp only [stS, if_neg (show ¬ c < 1008 by omega), if_neg (show ¬ c = 1100 by omega)]
      refine ⟨fun _ => ?_, htv.2.2⟩
      unfold opS
      rw [if_neg (by omega), if_neg (by omega)]
      split
      · split
        · exact Or.inl rfl
        · exact Or.inr rfl
      rw [if_pos (by omega)]
      split
      · exact Or.inl rfl
      · exact Or.inr rfl
  · match st, htv, hlen with
    | a :: b :: s, htv, hlen =>
      refine ⟨by omega, by omega, Or.inr (Or.inr ⟨by omega, by simp⟩), fun h => by omega, _, a3, ?_⟩
      simp only [stS, if_neg (show ¬ c < 1008 by omega), if_neg (show ¬ c = 1100 by omega)]
      exact ⟨fun h => absurd h (by decide), htv.2.2⟩
/-- a condition's codes in the reference, one behind another -/
theorem mo_run (s i b : Int) (x1 : Int) (kk : Int32 → Mem → Option (Bool × Mem)) (e : Nat) (s0 : 0 ≤ s) (s9 : s < 9) (b0 : 0 ≤ b) (b1 : b < 2) (hx : 0 ≤ x1) (hx2 : x1 < 1900) (h4 : e ≤ 400) (fact : Int → Int32) (hb : ∀ k : Int, k = 1006 ∨ k = 1007 → fact k = 0 ∨ fact k = 1) : ∀ (cs : List Int) (ts : List Bool) (k : Nat) (st : List Int32) (m : Mem) (nf : Nat), gI m 79 (x1 + 2).toNat = iI e → k + cs.length ≤ e → MRow m 79 335 k cs → SR m 85 st → TV ts st → okT cs ts → fcW (gI m 79) s i b = fact →
    ∃ m' v, F_M_holdsLine_L23 (iI s) (iI i) (iI b) (iI x1) kk (nf + cs.length) (iI st.length) (iI k) m = F_M_holdsLine_L23 (iI s) (iI i) (iI b) (iI x1) kk nf (iI 1) (iI (k + cs.length : Nat)) m' ∧ evS fact cs st = [v] ∧ (v = 0 ∨ v = 1) ∧ gI m' 85 0 = v ∧ ∀ o j, o ≠ 85 → gI m' o j = gI m o j
  | [], ts, k, st, m, nf, he, hi, hr, hst, htv, hok, hf => by
    have h1 : ts = [true] := hok
    subst h1
    match st, htv, hst with
    | [v], htv, hst => exact ⟨m, v, rfl, rfl, htv.1 rfl, hst.1, fun _ _ _ => rfl⟩
  | c :: cs, ts, k, st, m, nf, he, hi, hr, hst, htv, hok, hf => by
    rw [List.length_cons] at hi
    obtain ⟨g1, g2, g3, g4, g5, ts', g6, g7⟩ := okT_step fact htv hok hb
    obtain ⟨m1, e1, s1, f1⟩ := mo_step s i b c k x1 kk st m (nf + cs.length) e s0 s9 b0 b1 hx hx2 he h4 (by omega) hr.1 hr.2.1 g2 g3 hst g1 g4 g5
    rw [hf] at e1 s1
    have f79 : gI m1 79 = gI m 79 := by funext j; exact f1 79 j (by decide)
    obtain ⟨m2, v, e2, e3, e4, e5, f2⟩ := mo_run s i b x1 kk e s0 s9 b0 b1 hx hx2 h4 fact hb cs ts' (k + 1) (stS fact c st) m1 nf (by rw [f79]; exact he) (by omega) (MRow_congr (fun j => by rw [f79]) hr.2.2) s1 g7 g6 (by rw [f79]; exact hf)
    refine ⟨m2, v, ?_, e3, e4, e5, fun o j ho => (f2 o j ho).trans (f1 o j ho)⟩
    rw [List.length_cons, show nf + (cs.length + 1) = nf + cs.length + 1 by omega, e1]
    rw [show ((k : Int) + 1) = ((k + 1 : Nat) : Int) by omega, e2]
    congr 2
    omega
/-- a law: how hard each line makes it, and its condition's codes (none: always) -/
def okLaw (law : List (Int × List Int)) : Prop := law.length ≤ 12 ∧ ∀ x ∈ law, 0 ≤ x.1 ∧ x.1 ≤ 9 ∧ (x.2 = [] ∨ okT x.2 [])
def holdsL (fact : Int → Int32) (cs : List Int) : Bool := decide (cs = [] ∨ evS fact cs [] = [1])
def sumL (fact : Int → Int32) : List (Int × List Int) → Int
  | [] => 0
  | x :: r => (if holdsL fact x.2 = true then x.1 else 0) + sumL fact r
/-- the class's row -/
def codeL : List (Int × List Int) → List Int
  | [] => []
  | x :: r => (if x.2 = [] then [1] else x.2) ++ (2000 + x.1) :: codeL r
end LAWR
