section COST
/-- what going on is worth, and what the other choice is -/
def goV (P : OP) (t : Mt) : Int × Int := ses P (four (P.n - (t.pl + 1)).toNat) (V P (P.n - (t.pl + 1)).toNat) t.pl (kdZ t.inn t.fol) (oo (spZ t)) (leadZ t (batZ t)) false
def owV (P : OP) (t : Mt) : Int × Int := ow P (four (P.n - (t.pl + 1)).toNat) (V P (P.n - (t.pl + 1)).toNat) t.pl (kdZ t.inn t.fol) (spZ t) (leadZ t (batZ t))
/-- the other choice there is: 0 none, 1 declare, 2 follow on, 3 hold -/
def ocT (t : Mt) (mg : Int) : Int := oc mg (kdZ t.inn t.fol) (spZ t) (leadZ t t.fi)
theorem ocT_eq {t : Mt} {n mg : Int} (mo : MtOk t n) (f0 : 0 ≤ t.fi) (hw : t.win = -1) : (canD t = decide (ocT t mg = 1)) ∧ (canF t mg = decide (ocT t mg = 2)) ∧ (decide (t.inn = 3) = decide (ocT t mg = 3)) := by
  have hon := mo.on hw
  have hi0 := mo.in0
  have hi3 := mo.in3
  have hfo := mo.fo
  unfold ocT oc canD canF kdZ spZ
  rcases (show t.inn = 0 ∨ t.inn = 1 ∨ t.inn = 2 ∨ t.inn = 3 by omega) with h | h | h | h <;> cases hfr : t.fr <;> cases hfl : t.fol
  all_goals simp [h, hw, f0, inn]
  all_goals first | omega | skip
  all_goals trace_state
end COST
