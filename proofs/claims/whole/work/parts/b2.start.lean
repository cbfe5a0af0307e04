theorem st_nest : ∀ q ∈ nestL, Cond.methodLinkNest q.1 q.2.1 q.2.2.1 q.2.2.2 ∈ lw_tbl :=
  List.forall_mem_cons.mpr ⟨q170, List.forall_mem_cons.mpr ⟨q182, List.forall_mem_cons.mpr ⟨q209, List.forall_mem_cons.mpr ⟨q318, List.forall_mem_cons.mpr ⟨q372, List.forall_mem_cons.mpr ⟨q386, List.forall_mem_cons.mpr ⟨q389, List.forall_mem_cons.mpr ⟨q433, List.forall_mem_cons.mpr ⟨q436, List.forall_mem_cons.mpr ⟨q438, List.forall_mem_cons.mpr ⟨q453, List.forall_mem_cons.mpr ⟨q672, fun _ h => absurd h List.not_mem_nil⟩⟩⟩⟩⟩⟩⟩⟩⟩⟩⟩⟩
theorem st_cast : ∀ q ∈ castL, Cond.castable q.1 q.2 ∈ lw_tbl :=
  List.forall_mem_cons.mpr ⟨q1004, List.forall_mem_cons.mpr ⟨q1074, List.forall_mem_cons.mpr ⟨q1137, List.forall_mem_cons.mpr ⟨q1173, List.forall_mem_cons.mpr ⟨q1241, List.forall_mem_cons.mpr ⟨q2350, List.forall_mem_cons.mpr ⟨q2351, List.forall_mem_cons.mpr ⟨q2352, List.forall_mem_cons.mpr ⟨q2353, List.forall_mem_cons.mpr ⟨q2354, List.forall_mem_cons.mpr ⟨q2355, List.forall_mem_cons.mpr ⟨q2356, List.forall_mem_cons.mpr ⟨q2357, List.forall_mem_cons.mpr ⟨q2358, List.forall_mem_cons.mpr ⟨q2359, List.forall_mem_cons.mpr ⟨q2360, List.forall_mem_cons.mpr ⟨q2361, List.forall_mem_cons.mpr ⟨q2362, List.forall_mem_cons.mpr ⟨q2363, List.forall_mem_cons.mpr ⟨q2364, List.forall_mem_cons.mpr ⟨q2365, List.forall_mem_cons.mpr ⟨q2366, List.forall_mem_cons.mpr ⟨q2367, fun _ h => absurd h List.not_mem_nil⟩⟩⟩⟩⟩⟩⟩⟩⟩⟩⟩⟩⟩⟩⟩⟩⟩⟩⟩⟩⟩⟩⟩
theorem st_decl : ∀ x ∈ declL, Cond.declares x ∈ lw_tbl :=
  List.forall_mem_cons.mpr ⟨q819, List.forall_mem_cons.mpr ⟨q1006, List.forall_mem_cons.mpr ⟨q1008, List.forall_mem_cons.mpr ⟨q1010, fun _ h => absurd h List.not_mem_nil⟩⟩⟩⟩
theorem st_str : ∀ q ∈ strL, Cond.stringRef q.1 q.2.1 q.2.2 ∈ lw_tbl :=
  List.forall_mem_cons.mpr ⟨q824, List.forall_mem_cons.mpr ⟨q899, List.forall_mem_cons.mpr ⟨q904, List.forall_mem_cons.mpr ⟨q912, List.forall_mem_cons.mpr ⟨q913, List.forall_mem_cons.mpr ⟨q918, List.forall_mem_cons.mpr ⟨q919, List.forall_mem_cons.mpr ⟨q920, List.forall_mem_cons.mpr ⟨q931, List.forall_mem_cons.mpr ⟨q932, List.forall_mem_cons.mpr ⟨q933, List.forall_mem_cons.mpr ⟨q934, List.forall_mem_cons.mpr ⟨q935, List.forall_mem_cons.mpr ⟨q947, List.forall_mem_cons.mpr ⟨q954, List.forall_mem_cons.mpr ⟨q970, List.forall_mem_cons.mpr ⟨q984, List.forall_mem_cons.mpr ⟨q985, List.forall_mem_cons.mpr ⟨q993, List.forall_mem_cons.mpr ⟨q994, List.forall_mem_cons.mpr ⟨q995, List.forall_mem_cons.mpr ⟨q996, List.forall_mem_cons.mpr ⟨q997, List.forall_mem_cons.mpr ⟨q998, List.forall_mem_cons.mpr ⟨q999, List.forall_mem_cons.mpr ⟨q1000, List.forall_mem_cons.mpr ⟨q1045, List.forall_mem_cons.mpr ⟨q1081, List.forall_mem_cons.mpr ⟨q1144, List.forall_mem_cons.mpr ⟨q1180, List.forall_mem_cons.mpr ⟨q1248, List.forall_mem_cons.mpr ⟨q1270, List.forall_mem_cons.mpr ⟨q1317, List.forall_mem_cons.mpr ⟨q1329, List.forall_mem_cons.mpr ⟨q1341, List.forall_mem_cons.mpr ⟨q1353, List.forall_mem_cons.mpr ⟨q1426, List.forall_mem_cons.mpr ⟨q1499, List.forall_mem_cons.mpr ⟨q1501, List.forall_mem_cons.mpr ⟨q1517, List.forall_mem_cons.mpr ⟨q1543, List.forall_mem_cons.mpr ⟨q1566, List.forall_mem_cons.mpr ⟨q1614, List.forall_mem_cons.mpr ⟨q1782, List.forall_mem_cons.mpr ⟨q1797, List.forall_mem_cons.mpr ⟨q1802, List.forall_mem_cons.mpr ⟨q1807, List.forall_mem_cons.mpr ⟨q1808, List.forall_mem_cons.mpr ⟨q1813, List.forall_mem_cons.mpr ⟨q1814, List.forall_mem_cons.mpr ⟨q1815, List.forall_mem_cons.mpr ⟨q1824, List.forall_mem_cons.mpr ⟨q1825, List.forall_mem_cons.mpr ⟨q1826, List.forall_mem_cons.mpr ⟨q1831, List.forall_mem_cons.mpr ⟨q1832, List.forall_mem_cons.mpr ⟨q1841, List.forall_mem_cons.mpr ⟨q1842, List.forall_mem_cons.mpr ⟨q1863, List.forall_mem_cons.mpr ⟨q1876, List.forall_mem_cons.mpr ⟨q1877, List.forall_mem_cons.mpr ⟨q1878, List.forall_mem_cons.mpr ⟨q1879, List.forall_mem_cons.mpr ⟨q1880, fun _ h => absurd h List.not_mem_nil⟩⟩⟩⟩⟩⟩⟩⟩⟩⟩⟩⟩⟩⟩⟩⟩⟩⟩⟩⟩⟩⟩⟩⟩⟩⟩⟩⟩⟩⟩⟩⟩⟩⟩⟩⟩⟩⟩⟩⟩⟩⟩⟩⟩⟩⟩⟩⟩⟩⟩⟩⟩⟩⟩⟩⟩⟩⟩⟩⟩⟩⟩⟩⟩
theorem st_selX {args : Array Value} {s : State} (hts : ∀ w ∈ lw_tbl, w.before args s = true) : ∀ w ∈ selX, w.before args s = true :=
  List.forall_mem_cons.mpr ⟨sel_priv (y := ⟨"TossGround$Text", "cut", "([II)V"⟩) (by decide) (hts _ q798) rfl (hts _ q803) (hts _ q804), List.forall_mem_cons.mpr ⟨sel_priv (y := ⟨"TossGround$Text", "addThing", "(III)V"⟩) (by decide) (hts _ q798) rfl (hts _ q810) (hts _ q811), List.forall_mem_cons.mpr ⟨sel_priv (y := ⟨"TossGround$Text", "isAt", "(I)Z"⟩) (by decide) (hts _ q798) rfl (hts _ q815) (hts _ q816), List.forall_mem_cons.mpr ⟨sel_priv (y := ⟨"TossGround$Text", "byteAt", "(I)I"⟩) (by decide) (hts _ q798) rfl (hts _ q842) (hts _ q843), List.forall_mem_cons.mpr ⟨sel_priv (y := ⟨"TossGround$Text", "cut", "([II)V"⟩) (by decide) (hts _ q893) rfl (hts _ q803) (hts _ q804), List.forall_mem_cons.mpr ⟨sel_priv (y := ⟨"TossGround$Text", "addThing", "(III)V"⟩) (by decide) (hts _ q893) rfl (hts _ q810) (hts _ q811), List.forall_mem_cons.mpr ⟨sel_priv (y := ⟨"TossGround$Text", "isAt", "(I)Z"⟩) (by decide) (hts _ q893) rfl (hts _ q815) (hts _ q816), List.forall_mem_cons.mpr ⟨sel_priv (y := ⟨"TossGround$Text", "byteAt", "(I)I"⟩) (by decide) (hts _ q893) rfl (hts _ q842) (hts _ q843), fun _ h => absurd h List.not_mem_nil⟩⟩⟩⟩⟩⟩⟩⟩
theorem st_cls {args : Array Value} {s : State} (hgd : ∀ w ∈ lw_gd, w.before args s = true) : ∃ D : va_G, ∀ (c : Nat) (q : vw_C), cls[c]? = some q → u_Kn s q.1 q.2.1 q.2.2 (D.1 c) (D.2 c) := by
  have h : ∀ (c : Nat), ∃ x : ClassId × (Nat → Nat), ∀ q : vw_C, cls[c]? = some q → u_Kn s q.1 q.2.1 q.2.2 x.1 x.2 := by
    intro c
    cases hq : cls[c]? with
    | none => exact ⟨(0, fun _ => 0), fun q h => by cases h⟩
    | some q =>
      have h1 : ∃ (cC : ClassId) (iS : Nat → Nat), u_Kn s q.1 q.2.1 q.2.2 cC iS := by
        match c, hq with
        | 0, hq => cases hq; exact u_known (ws := lw_gd) hgd iX0 (hgd _ (gd q208 rfl))
        | 1, hq => cases hq; exact u_known (ws := lw_gd) hgd iX1 (hgd _ (gd q175 rfl))
        | 2, hq => cases hq; exact u_known (ws := lw_gd) hgd iX2 (hgd _ (gd q385 rfl))
        | 3, hq => cases hq; exact u_known (ws := lw_gd) hgd iX3 (hgd _ (gd q181 rfl))
        | 4, hq => cases hq; exact u_known (ws := lw_gd) hgd iX4 (hgd _ (gd q432 rfl))
        | 5, hq => cases hq; exact u_known (ws := lw_gd) hgd iX5 (hgd _ (gd q317 rfl))
        | 6, hq => cases hq; exact u_known (ws := lw_gd) hgd iX6 (hgd _ (gd q452 rfl))
        | 7, hq => cases hq; exact u_known (ws := lw_gd) hgd iX7 (hgd _ (gd q169 rfl))
        | 8, hq => cases hq; exact u_known (ws := lw_gd) hgd iX8 (hgd _ (gd q365 rfl))
        | 9, hq => cases hq; exact u_known (ws := lw_gd) hgd iX0 (hgd _ (gd q208 rfl))
        | 10, hq => cases hq; exact u_known (ws := lw_gd) hgd iX10 (hgd _ (gd q161 rfl))
        | 11, hq => cases hq; exact u_known (ws := lw_gd) hgd iX11 (hgd _ (gd q1638 rfl))
        | c + 12, hq => cases hq
      obtain ⟨cC, iS, h2⟩ := h1
      exact ⟨(cC, iS), fun q' h' => by cases h'; exact h2⟩
  obtain ⟨f, hf⟩ := Classical.axiomOfChoice h
  exact ⟨(fun c => (f c).1, fun c => (f c).2), fun c q hq => hf c q hq⟩
/-! ===== the strings ===== -/
def strC (q : String × Nat × String) : List Cond :=
  [.exactly (.string q.1 q.2.1) "java/lang/String", .eq (.field (.string q.1 q.2.1) "java/lang/String" "coder" "B") (.int 0), .arrayOf (.field (.string q.1 q.2.1) "java/lang/String" "value" "[B") .byte, .eq (.length (.field (.string q.1 q.2.1) "java/lang/String" "value" "[B")) (.int (Int32.ofNat q.2.2.length))] ++
  (List.range q.2.2.length).map (fun j => .eq (.elem (.field (.string q.1 q.2.1) "java/lang/String" "value" "[B") (.int (Int32.ofNat j))) (.int (txB q.2.2 j)))
def eqC (r q : String × Nat × String) : Cond := .eq (.string r.1 r.2.1) (.string q.1 q.2.1)
def repQ (tx : String) : String × Nat × String := (strL.find? (fun q => q.2.2 == tx)).getD ("", 0, "")
def strE (q : String × Nat × String) : List Cond := strC q ++ ((strL.takeWhile (fun r => r != q)).filter (fun r => r.2.2 == q.2.2)).map (fun r => eqC r q)
set_option maxRecDepth 100000 in
theorem nw_drop : (flatC narrow_1).drop 84 = strL.flatMap strE := by decide +kernel
theorem nw_str : ∀ q ∈ strL, ∀ w ∈ strC q, w ∈ flatC narrow_1 := fun q hq w hw => by
  have h : w ∈ strL.flatMap strE := List.mem_flatMap.mpr ⟨q, hq, List.mem_append_left _ hw⟩
  rw [← nw_drop] at h
  exact List.mem_of_mem_drop h
set_option maxRecDepth 100000 in
theorem nw_eq : ∀ q ∈ strL, repQ q.2.2 = q ∨ eqC (repQ q.2.2) q ∈ flatC narrow_1 := by decide +kernel
theorem nw_rep : ∀ q ∈ strL, repQ q.2.2 ∈ strL ∧ (repQ q.2.2).2.2 = q.2.2 := by decide +kernel
theorem nw_len : ∀ q ∈ strL, q.2.2.length < 2 ^ 31 := by decide +kernel
set_option maxRecDepth 100000 in
theorem nw_nc : ∀ i, i < 5 → ∀ j, j < 5 → i ≠ j → Cond.not (.castable (exN i) (exN j)) ∈ flatC narrow_1 := by decide +kernel
theorem nw_cs : Cond.eq (.static "java/lang/String" "COMPACT_STRINGS" "Z") (.int 1) ∈ flatC narrow_1 := by decide +kernel
theorem nw_fm : Cond.isRef (.static "jdk/internal/util/Preconditions" "SIOOBE_FORMATTER" "Ljava/util/function/BiFunction;") ∈ flatC narrow_1 := by decide +kernel
theorem nw_us : Cond.isRef (.static Bundle.tN "UNASSIGNED_STACK" Bundle.steD) ∈ flatC narrow_1 := by decide +kernel
theorem nw_ss : Cond.isRef (.static Bundle.tN "SUPPRESSED_SENTINEL" Bundle.listD) ∈ flatC narrow_1 := by decide +kernel
theorem str_one {args : Array Value} {s : State} {A : Nat → Prop} {q : String × Nat × String} (h : ∀ w ∈ strC q, w.before args s = true) (hlen : q.2.2.length < 2 ^ 31) (href : (Cond.stringRef q.1 q.2.1 q.2.2).before args s = true) (hA : ∀ a : Nat, a < s.heap.size → ¬ A a) : ∃ a : Nat, (Term.string q.1 q.2.1).eval args s none [] s = some (.ref a) ∧ vk_R q.1 q.2.1 q.2.2 a s ∧ SA a q.2.2 A s s.heap := by
  have hpre : ∀ w ∈ [Cond.exactly (.string q.1 q.2.1) "java/lang/String", .eq (.field (.string q.1 q.2.1) "java/lang/String" "coder" "B") (.int 0), .arrayOf (.field (.string q.1 q.2.1) "java/lang/String" "value" "[B") .byte, .eq (.length (.field (.string q.1 q.2.1) "java/lang/String" "value" "[B")) (.int (Int32.ofNat q.2.2.length))], w.before args s = true := fun w hw => h w (List.mem_append_left _ hw)
  obtain ⟨adK, adV, ⟨h1, -⟩, h2⟩ := vk_Sof (args := args) (s := s) (N := 1) (tm := fun _ => .string q.1 q.2.1) (len := [q.2.2.length]) (byt := [q.2.2.toList.map (fun c => nI c.toNat)]) (A := A)
    (fun i hi => by rw [show i = 0 by omega]; exact hlen) (fun i _ => hpre _ (by simp)) (fun i _ => hpre _ (by simp)) (fun i _ => hpre _ (by simp)) (fun i hi => by rw [show i = 0 by omega]; exact hpre _ (by simp))
    (fun i hi j hj => by
      have e0 : i = 0 := by omega
      subst e0
      exact h _ (List.mem_append_right _ (List.mem_map.mpr ⟨j, List.mem_range.mpr hj, rfl⟩)))
    (fun i j hi hj hn => absurd (show i = j by omega) hn) hA
  obtain ⟨g1, g2, g3, g4⟩ := h1 0 (by omega)
  have g5 := h2 0 (by omega)
  exact ⟨adK 0, g5, vk_R.of href g5, g1, g2, adV 0, g3, g4⟩
theorem str_all {args : Array Value} {s : State} {A : Nat → Prop} (hn : ∀ w ∈ flatC narrow_1, w.before args s = true) (hts : ∀ w ∈ lw_tbl, w.before args s = true) (hA : ∀ a : Nat, a < s.heap.size → ¬ A a) : ∃ sa : String → Nat, ∀ q ∈ strL, vk_R q.1 q.2.1 q.2.2 (sa q.2.2) s ∧ SA (sa q.2.2) q.2.2 A s s.heap := by
  have h : ∀ q : String × Nat × String, ∃ a : Nat, q ∈ strL → (Term.string q.1 q.2.1).eval args s none [] s = some (.ref a) ∧ vk_R q.1 q.2.1 q.2.2 a s ∧ SA a q.2.2 A s s.heap := by
    intro q
    by_cases hq : q ∈ strL
    · obtain ⟨a, ha⟩ := str_one (args := args) (s := s) (A := A) (q := q) (fun w hw => hn w (nw_str q hq w hw)) (nw_len q hq) (hts _ (st_str q hq)) hA
      exact ⟨a, fun _ => ha⟩
    · exact ⟨0, fun h => absurd h hq⟩
  obtain ⟨f, hf⟩ := Classical.axiomOfChoice h
  refine ⟨fun tx => f (repQ tx), fun q hq => ?_⟩
  have e : f (repQ q.2.2) = f q := by
    rcases nw_eq q hq with h1 | h1
    · rw [h1]
    · obtain ⟨r1, -⟩ := nw_rep q hq
      have e1 := (hf _ r1).1
      have e2 := (hf q hq).1
      have e3 : (Term.string (repQ q.2.2).1 (repQ q.2.2).2.1).eval args s none [] s = some (.ref (f q)) := Cond.eq_plain (hn _ h1) e2 (Or.inr (Or.inr rfl))
      have e4 := e1.symm.trans e3
      simpa using e4
  show vk_R q.1 q.2.1 q.2.2 (f (repQ q.2.2)) s ∧ SA (f (repQ q.2.2)) q.2.2 A s s.heap
  rw [e]
  exact (hf q hq).2
theorem st_arr {args : Array Value} {s : State} {ty : FieldType} (hra : ∀ (cA : ClassId) (U : State), va_RA U cA ty = (U.vm.findClass ("[" ++ ty.toString) = some cA)) (h : (Cond.arrayClass ty).before args s = true) : ∃ cA : ClassId, ArrOfT s cA ty ∧ va_RA s cA ty := by
  obtain ⟨cA, kA, comp, h1, h2, h3⟩ := Cond.arrayClass_spec h
  exact ⟨cA, fun N z => ⟨fun k h => (by cases h), kA, h2, comp, h3⟩, by rw [hra]; exact h1⟩
theorem st_arq {args : Array Value} {s : State} (h : (Cond.arrayOver (.object "TossGround$Match")).before args s = true) : ∃ cA : ClassId, ArrOfT s cA (.object "TossGround$Match") ∧ va_RA s cA (.object "TossGround$Match") := by
  obtain ⟨comp, cA, kA, h1, -, h3, h4, h5⟩ := Cond.arrayOver_spec h
  exact ⟨cA, fun N z => ⟨fun k h => (by cases h), kA, h3, comp, h4⟩, kA, comp, h3, h4, h1, h5⟩
theorem start_W {p : Program} {e : Env} {s : State} {m : MethodId} {below : List Frame} {meth : Method} {c : Code} (l : Launch) (hflags : l.flags = flags0) {b L : Nat} {xs : Nat → Int32} (hL : L ≤ 3584) (hexec : p.tables.exec = Jvm.exec) (hcode : c.code = code) (hml : c.maxLocals = 8) (hown : s.vm.findClass "TossGroundLaw" = some m.cls) (hts : ∀ w ∈ lw_tbl, w.before #[Value.ref b] s = true) (hX : va_X b L xs s s.heap) (hbl : b < s.heap.size) (hlocks : meth.locks = false) (hgv : (Cond.and given_1 narrow_1).before #[Value.ref b] s = true)
    {Q : State → Prop} (hend : ∀ (H : Heap) (ls : Array Slot), W p l e room_1 s m #[Value.ref b] below meth c H [] 601024 7293034 Q (F0 m 3292 ls [.int 1])) : W p l e room_1 s m #[Value.ref b] below meth c s.heap [] 0 0 Q (entryFrame m ([Value.ref b] : List Value).toArray 8) := by
  have hl0 : l.stackTraces = false := by
    unfold Launch.stackTraces
    rw [hflags]
    decide +kernel
  have hn : ∀ w ∈ flatC narrow_1, w.before #[Value.ref b] s = true := fun w hw => flat_of_before _ hgv w (List.mem_append_right _ hw)
  have hgd : ∀ w ∈ lw_gd, w.before #[Value.ref b] s = true := fun w hw => (List.mem_append.mp (List.mem_filter.mp hw).1).elim (hts w) (st_selX hts w)
  obtain ⟨D, hD⟩ := st_cls hgd
  obtain ⟨c1, h1⟩ := st_arr (ty := .int) (fun _ _ => rfl) (hgd _ (gd q206 rfl))
  obtain ⟨c2, h2⟩ := st_arr (ty := .long) (fun _ _ => rfl) (hgd _ (gd q315 rfl))
  obtain ⟨c3, h3⟩ := st_arr (ty := .byte) (fun _ _ => rfl) (hgd _ (gd q1071 rfl))
  have hao := hts _ q371
  obtain ⟨c4, h4⟩ := st_arq hao
  have hA : ∀ a : Nat, a < s.heap.size → ¬ (s.heap.size ≤ a) := fun a h => by omega
  obtain ⟨sa, hsa⟩ := str_all (A := fun q => s.heap.size ≤ q) hn hts hA
  obtain ⟨G, hG⟩ : ∃ G : GG, G = (D, s.heap.size, c1, c2, c3, c4, sa) := ⟨_, rfl⟩
  have hGs : G.2.1 = s.heap.size := by rw [hG]
  have hK : va_K G.1 cls (tysO G) s := by
    rw [hG]
    refine ⟨hD, fun k q hk => ?_⟩
    match k, hk with
    | 0, hk => cases hk; exact h1
    | 1, hk => cases hk; exact h2
    | 2, hk => cases hk; exact h3
    | 3, hk => cases hk; exact h4
    | k + 4, hk => cases hk
  have hEX : EX G.2.1 G.2.2.2.2.2.2 s := by
    rw [hG]
    exact ⟨hsa, vx_Zqof (hts _ q1029) (hts _ q151) (hn _ nw_us) hA, vx_Zqof (hts _ q1031) (hts _ q151) (hn _ nw_ss) hA, fun q hq => va_Nw.of rfl (hts _ (st_nest q hq)), fun q hq => va_Nw.of rfl (hts _ (st_cast q hq)), fun x hx => va_Nw.of rfl (hts _ (st_decl x hx)),
      va_Zof (hts _ q840) (hts _ q147) (va_eqt (hn _ nw_cs)) hA, va_Zqof (hts _ q860) (hts _ q149) (hn _ nw_fm) hA⟩
  have hN : NCS s := fun i j hi hj hij => va_Nc.of (hn _ (nw_nc i hi j hj hij))
  have hAO : va_AO "TossGround$Match" s := va_AO.of hao
  have C : Cx G p l room_1 299 s m #[Value.ref b] meth c code 8 RL := ⟨⟨hexec, hcode, hml, hown, hgd⟩, hK, by rw [hGs]; exact Nat.le_refl _, hEX, hlocks, ⟨by decide, by decide⟩, hl0⟩
  have hG0 : G.2.1 ≤ s.heap.size := by rw [hGs]; exact Nat.le_refl _
  have hR : Rp G (mrOf []) 0 (memOf []) s s.heap [] := ⟨fun k q h => by simp [wsO] at h, va_S.rf⟩
  rw [lg_entry_eq]
  have hl : lv_has (lg_sl [Value.ref b] ++ List.replicate (8 - (lg_sl [Value.ref b]).length) Slot.unset).toArray 8 [(0, .ref b)] := lv_entry [Value.ref b] (Nat.le_of_ble_eq_true rfl)
  generalize (lg_sl [Value.ref b] ++ List.replicate (8 - (lg_sl [Value.ref b]).length) Slot.unset).toArray = ls at hl ⊢
  have hx := C.1.1
  have hb := C.1.2.1
  have wn : ∀ n, WB_ [] n := fun n q hq => nomatch hq
  have rn : ∀ n, RBq [] n := fun n q hq => nomatch hq
  refine r_new C hR (by rw [hGs]) hG0 (wn 0) (rn 0) rfl rfl iX10 tyX10 tyX10_ok dvX10 (gd q160 rfl) (gd q161 rfl) (gd q134 rfl) (by decide) (by decide) (dk DLaw0 0 rfl) (fun H hR => ?_)
  refine k_cells (k := 1) (n' := 14) rfl rfl ?_
  have hR := k_at (n' := 1) hR rfl
  refine lv_dup hx hb (dk DLaw0 1 rfl) rfl ?_
  refine r_callK (o := 0) C hAO hR (by rw [hGs]) (K_TossGround l hl0 G [] [] (rn 1) (wn 1)) (by decide) (by decide) (by decide) wkL_152 (Nat.le_of_ble_eq_true rfl) hl.1 ⟨by decide, by decide⟩ (dk DLaw0 2 rfl) (fun H locs hR => ?_)
  refine k_cells (k := 78) (n' := 199966) rfl rfl ?_
  have hR := k_at (n' := 78) hR rfl
  refine lv_astore_n (lv' := [(1, .ref (G.2.1 + 0)), (0, .ref b)]) hx hb (dk DLaw0 3 rfl) rfl hl (by decide) rfl (fun ls hl => ?_)
  have w1 : WB_ (wTossGround []) 78 := wb_TossGround (by decide) (wn 78)
  have r1 : RBq (rTossGround []) 78 := rb_TossGround (by decide) (rn 78)
  refine r_new C hR (by rw [hGs]) hG0 w1 r1 rfl rfl iX11 tyX11 tyX11_ok dvX11 (gd q1637 rfl) (gd q1638 rfl) (gd q145 rfl) (by decide) (by decide) (dk DLaw0 4 rfl) (fun H hR => ?_)
  refine k_cells (k := 79) (n' := 199993) rfl rfl ?_
  have hR := k_at (n' := 79) hR rfl
  refine lv_dup hx hb (dk DLaw0 5 rfl) rfl ?_
  refine r_callK (o := 78) C hAO hR (by rw [hGs]) (K_TossGroundModel l hl0 G _ _ (r1.up (by decide)) (w1.up (by decide))) (by decide) (by decide) (by decide) wkL_155 (Nat.le_of_ble_eq_true rfl) hl.1 ⟨by decide, by decide⟩ (dk DLaw0 6 rfl) (fun H locs hR => ?_)
  refine k_cells (k := 91) (n' := 294722) rfl rfl ?_
  have hR := k_at (n' := 91) hR rfl
  refine lv_astore_n (lv' := [(2, .ref (G.2.1 + 78)), (1, .ref (G.2.1 + 0)), (0, .ref b)]) hx hb (dk DLaw0 7 rfl) rfl hl (by decide) rfl (fun ls hl => ?_)
  refine lv_iconst (v := (1 : Int32)) hx hb (dk DLaw0 8 rfl) (by decide) ?_
  refine r_newl (N := 1) C hR (by rw [hGs]) hG0 (wb_TossGroundModel (by decide) (w1.up (by decide))) rfl (gd q315 rfl) ⟨by decide, by decide⟩ (by decide) (by decide) (by decide) (dk DLaw0 9 rfl) (fun H hR => ?_)
  refine k_cells (k := 92 + 0) (n' := 294723 + 6 * 0) rfl rfl ?_
  have hR := k_at (n' := N0) hR rfl
  refine lv_astore_n (lv' := [(3, .ref (G.2.1 + 91)), (2, .ref (G.2.1 + 78)), (1, .ref (G.2.1 + 0)), (0, .ref b)]) hx hb (dk DLaw0 10 rfl) rfl hl (by decide) rfl (fun ls hl => ?_)
  refine lv_iconst (v := iI ((7 * 0 : Nat) : Int)) hx hb (dk DLaw0 11 rfl) (by decide) ?_
  refine lv_istore (lv' := [(4, .int (iI ((7 * 0 : Nat) : Int))), (3, .ref (G.2.1 + 91)), (2, .ref (G.2.1 + 78)), (1, .ref (G.2.1 + 0)), (0, .ref b)]) hx hb (dk DLaw0 12 rfl) hl (by decide) rfl (fun ls hl => ?_)
  have hR : Rp G mr0 N0 mF s H locs := by
    rw [show mrOf (rTossGroundModel (rTossGround [])) = mr0 from rlF_mr] at hR
    exact hR
  exact law_loop hl0 C (Nat.le_refl _) hN hX hL hbl (by rw [hGs]; omega) (by rw [hGs]; exact Nat.le_refl _) hend 512 0 rfl H locs ls mF (lv_sub hl [4, 3, 2, 1, 0] rfl) hR inv0F
