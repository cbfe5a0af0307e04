section JDK
variable {G : GG} {mr : MR} {n : Nat} {mem mem' : Mem} {p : Program} {l : Launch} {e : Env} {R : Room} {d : Nat} {s : State} {mid : MethodId} {args : Array Value} {below : List Frame} {meth : Method} {c : Code} {H : Heap} {locs : List Loc} {cells slots : Nat} {Q : State → Prop} {cc : ByteArray} {nL : Nat} {own : String} {pc : Nat} {ls : Array Slot} {rest : List Value}
theorem r_nret {v : Int32} {ty : FieldType} (C : Cx G p l R d s mid args meth c cc nL own) (hr : meth.sig.returnType = some ty) (hn : narrow ty (.int v) = .int v) (hR : Rp G mr n mem s H locs) (hdg : decode cc pc = .ok (.ireturn, 1)) : W p l e R s mid args below meth c H locs cells slots (MQ below (QR G mr n (some (.int v)) mem) args s cells slots (fun q => G.2.1 ≤ q)) (F0 mid pc ls [.int v]) :=
  W.zret C.1.1 C.1.2.1 hr hn (fun t ht _ => ⟨rfl, by rw [ht]; exact hR.1, hR.2.F ht⟩) (fun q hq => hR.2.2.2 q hq) hdg C.2.2.2.2.1
theorem r_callT {a idx maxL na dz : Nat} {Cn : String} {y : MethodName} {bytes : ByteArray} {ret : Option FieldType} {As st0 : List Value} {r : Option Value} (C : Cx G p l R d s mid args meth c cc nL own) (hR : Rp G mr n mem s H locs)
    (hM : Ct l G mr n y bytes maxL ret dz (.ref a :: As) mem r mem') (hd : dz + 1 ≤ d) (hmx : maxL ≤ 21) (hrec : ∃ cell : Cell, H[a]? = some cell ∧ cell.vm.isStatics = false ∧ s.vm.findClass Cn = some cell.cls) (w : WV own idx Cn y bytes maxL ret na) (hn : As.length = na) (hst : st0 = As.reverse ++ .ref a :: rest) (hcat : (rest.map fun v => v.category).sum ≤ 8) (hsz : ls.size = nL) (hcs : cells ≤ R.cells ∧ slots ≤ R.slots) (hdg : decode cc pc = .ok (.invokevirtual idx, 3))
    (kk : ∀ (H : Heap) (locs : List Loc), Rp G mr n mem' s H locs → W p l e R s mid args below meth c H locs cells slots Q (F0 mid (pc + 3) ls (r.toList ++ rest))) : W p l e R s mid args below meth c H locs cells slots Q (F0 mid pc ls st0) :=
  r_after hR (va_runV (As := As) (rest := rest) C.1 hM ⟨callB_g C w.1 hd hmx, C.1.2.2.2.2 _ w.2.1, C.1.2.2.2.2 _ w.2.2⟩ ⟨fun a U g mk q => ⟨q.1, q.2.calling g mk a⟩, hrec, fun U hU hW => ⟨rfl, PreRS C hR U hU hW⟩⟩ rfl hn hsz hst (lv_room hcat) hdg hcs) kk
/-- a text's cells, as they stand -/
theorem tx_SA {tx : String} (C : Cx G p l R d s mid args meth c cc nL own) (htx : tx ∈ strL.map (fun q => q.2.2)) : SA (G.2.2.2.2.2.2 tx) tx (fun q => G.2.1 ≤ q) s s.heap := by
  obtain ⟨q, hq, rfl⟩ := List.mem_map.mp htx
  exact (C.2.2.2.1.1 q hq).2
theorem tx_rec {tx : String} (C : Cx G p l R d s mid args meth c cc nL own) (hR : Rp G mr n mem s H locs) (htx : tx ∈ strL.map (fun q => q.2.2)) : ∃ cell : Cell, H[G.2.2.2.2.2.2 tx]? = some cell ∧ cell.vm.isStatics = false ∧ s.vm.findClass "java/lang/String" = some cell.cls := by
  obtain ⟨cell, h1, h2, h3, -⟩ := (tx_SA C htx).1.kept hR.2.2.1
  exact ⟨cell, h1, h2, h3⟩
theorem dCod_0 : decode prog_24_method_152_code 0 = .ok (.getstatic 38, 3) := by decide +kernel
theorem dCod_3 : decode prog_24_method_152_code 3 = .ok (.ifCond .eq 10, 3) := by decide +kernel
theorem dCod_6 : decode prog_24_method_152_code 6 = .ok (.aload_n 0, 1) := by decide +kernel
theorem dCod_7 : decode prog_24_method_152_code 7 = .ok (.getfield 15, 3) := by decide +kernel
theorem dCod_10 : decode prog_24_method_152_code 10 = .ok (.goto 4, 3) := by decide +kernel
theorem dCod_14 : decode prog_24_method_152_code 14 = .ok (.ireturn, 1) := by decide +kernel
set_option maxHeartbeats 1000000 in
theorem c_coder (l : Launch) (hl0 : l.stackTraces = false) (G : GG) (mr : MR) (n : Nat) (tx : String) (htx : tx ∈ strL.map (fun q => q.2.2)) (m0 : Mem) : Ct l G mr n jCod prog_24_method_152_code 1 (some .byte) 1 [.ref (G.2.2.2.2.2.2 tx)] m0 (some (.int 0)) m0 := by
  refine Ct_of hl0 (by decide) (Nat.le_of_ble_eq_true rfl) ?_
  intro p e s mid args below meth c ls C hrt hl hR
  have hx := C.1.1
  have hb := C.1.2.1
  have hl : lv_has ls 1 [(0, .ref (G.2.2.2.2.2.2 tx))] := hl
  refine va_gets hx hb C.2.2.2.1.2.2.2.2.2.2.1 hR.2 C.1.2.2.2.1 (C.1.2.2.2.2 _ (gd q839 rfl)) (fun _ h => h) dCod_0 ?_
  refine lv_if_eq (tgt := 13) hx hb dCod_3 (by decide) (fun h => absurd h (by decide)) (fun _ => ?_)
  refine lv_aload_n hx hb dCod_6 rfl (lv_at hl 0 rfl) ?_
  refine vk_getf hx hb (tx_SA C htx).2.1 hR.2 C.1.2.2.2.1 (C.1.2.2.2.2 _ (gd q2369 rfl)) (fun _ h => h) dCod_7 ?_
  refine lv_goto (tgt := 14) hx hb dCod_10 (by decide) ?_
  exact r_nret C hrt rfl hR dCod_14
theorem dLat_0 : decode prog_24_method_154_code 0 = .ok (.getstatic 38, 3) := by decide +kernel
theorem dLat_3 : decode prog_24_method_154_code 3 = .ok (.ifCond .eq 14, 3) := by decide +kernel
theorem dLat_6 : decode prog_24_method_154_code 6 = .ok (.aload_n 0, 1) := by decide +kernel
theorem dLat_7 : decode prog_24_method_154_code 7 = .ok (.getfield 15, 3) := by decide +kernel
theorem dLat_10 : decode prog_24_method_154_code 10 = .ok (.ifCond .ne 7, 3) := by decide +kernel
theorem dLat_13 : decode prog_24_method_154_code 13 = .ok (.iconst 1, 1) := by decide +kernel
theorem dLat_14 : decode prog_24_method_154_code 14 = .ok (.goto 4, 3) := by decide +kernel
theorem dLat_18 : decode prog_24_method_154_code 18 = .ok (.ireturn, 1) := by decide +kernel
set_option maxHeartbeats 1000000 in
theorem c_latin (l : Launch) (hl0 : l.stackTraces = false) (G : GG) (mr : MR) (n : Nat) (tx : String) (htx : tx ∈ strL.map (fun q => q.2.2)) (m0 : Mem) : Ct l G mr n jLat prog_24_method_154_code 1 (some .boolean) 1 [.ref (G.2.2.2.2.2.2 tx)] m0 (some (.int 1)) m0 := by
  refine Ct_of hl0 (by decide) (Nat.le_of_ble_eq_true rfl) ?_
  intro p e s mid args below meth c ls C hrt hl hR
  have hx := C.1.1
  have hb := C.1.2.1
  have hl : lv_has ls 1 [(0, .ref (G.2.2.2.2.2.2 tx))] := hl
  refine va_gets hx hb C.2.2.2.1.2.2.2.2.2.2.1 hR.2 C.1.2.2.2.1 (C.1.2.2.2.2 _ (gd q839 rfl)) (fun _ h => h) dLat_0 ?_
  refine lv_if_eq (tgt := 17) hx hb dLat_3 (by decide) (fun h => absurd h (by decide)) (fun _ => ?_)
  refine lv_aload_n hx hb dLat_6 rfl (lv_at hl 0 rfl) ?_
  refine vk_getf hx hb (tx_SA C htx).2.1 hR.2 C.1.2.2.2.1 (C.1.2.2.2.2 _ (gd q2369 rfl)) (fun _ h => h) dLat_7 ?_
  refine lv_if_ne (tgt := 17) hx hb dLat_10 (by decide) (fun h => absurd rfl h) (fun _ => ?_)
  refine lv_iconst (v := (1 : Int32)) hx hb dLat_13 (by decide) ?_
  refine lv_goto (tgt := 18) hx hb dLat_14 (by decide) ?_
  exact r_nret C hrt rfl hR dLat_18
theorem dLen_0 : decode prog_24_method_54_code 0 = .ok (.aload_n 0, 1) := by decide +kernel
theorem dLen_1 : decode prog_24_method_54_code 1 = .ok (.getfield 9, 3) := by decide +kernel
theorem dLen_4 : decode prog_24_method_54_code 4 = .ok (.arraylength, 1) := by decide +kernel
theorem dLen_5 : decode prog_24_method_54_code 5 = .ok (.aload_n 0, 1) := by decide +kernel
theorem dLen_6 : decode prog_24_method_54_code 6 = .ok (.invokevirtual 335, 3) := by decide +kernel
theorem dLen_9 : decode prog_24_method_54_code 9 = .ok (.ishr, 1) := by decide +kernel
theorem dLen_10 : decode prog_24_method_54_code 10 = .ok (.ireturn, 1) := by decide +kernel
theorem wCod : WV "java/lang/String" 335 "java/lang/String" jCod prog_24_method_152_code 1 (some .byte) 0 := ⟨⟨(gd q835 rfl), (gd q147 rfl), (gd q838 rfl), by decide, by decide, by decide +kernel⟩, (gd q836 rfl), (gd q837 rfl)⟩
set_option maxHeartbeats 1000000 in
theorem c_slen (l : Launch) (hl0 : l.stackTraces = false) (G : GG) (mr : MR) (n : Nat) (tx : String) (htx : tx ∈ strL.map (fun q => q.2.2)) (m0 : Mem) : Ct l G mr n jLen prog_24_method_54_code 1 (some .int) 2 [.ref (G.2.2.2.2.2.2 tx)] m0 (some (.int (nI tx.length))) m0 := by
  refine Ct_of hl0 (by decide) (Nat.le_of_ble_eq_true rfl) ?_
  intro p e s mid args below meth c ls C hrt hl hR
  have hx := C.1.1
  have hb := C.1.2.1
  have hl : lv_has ls 1 [(0, .ref (G.2.2.2.2.2.2 tx))] := hl
  obtain ⟨v, h3, h4⟩ := (tx_SA C htx).2.2
  refine lv_aload_n hx hb dLen_0 rfl (lv_at hl 0 rfl) ?_
  refine vk_getf hx hb h3 hR.2 C.1.2.2.2.1 (C.1.2.2.2.2 _ (gd q2368 rfl)) (fun _ h => h) dLen_1 ?_
  refine va_tlen hx hb h4 hR.2 (v := nI tx.length) rfl dLen_4 ?_
  refine lv_aload_n hx hb dLen_5 rfl (lv_at hl 0 rfl) ?_
  refine r_callT (As := []) (rest := [.int (nI tx.length)]) C hR (c_coder l hl0 G mr n tx htx m0) (by decide) (by decide) (tx_rec C hR htx) wCod rfl rfl (Nat.le_of_ble_eq_true rfl) hl.1 ⟨Nat.zero_le _, Nat.zero_le _⟩ dLen_6 (fun H locs hR => ?_)
  refine lv_ishr hx hb dLen_9 ?_
  rw [show nI tx.length >>> ((0 : Int32) &&& 31) = nI tx.length by simp]
  exact r_nret C hrt rfl hR dLen_10
theorem r_slen {tx : String} {idx : Nat} (C : Cx G p l R d s mid args meth c cc nL own) (hR : Rp G mr n mem s H locs) (htx : tx ∈ strL.map (fun q => q.2.2)) (lk : Cond.methodLink own idx jLen ∈ lw_gd) (hd : 3 ≤ d) (hcat : (rest.map fun v => v.category).sum ≤ 8) (hsz : ls.size = nL) (hcs : cells ≤ R.cells ∧ slots ≤ R.slots) (hdg : decode cc pc = .ok (.invokevirtual idx, 3))
    (kk : ∀ (H : Heap) (locs : List Loc), Rp G mr n mem s H locs → W p l e R s mid args below meth c H locs cells slots Q (F0 mid (pc + 3) ls (.int (nI tx.length) :: rest))) : W p l e R s mid args below meth c H locs cells slots Q (F0 mid pc ls (.ref (G.2.2.2.2.2.2 tx) :: rest)) :=
  r_callT (As := []) (rest := rest) C hR (c_slen l C.2.2.2.2.2.2 G mr n tx htx mem) hd (by decide) (tx_rec C hR htx) (Cn := "java/lang/String") (na := 0) ⟨⟨lk, (gd q147 rfl), (gd q834 rfl), by decide, by decide, by decide +kernel⟩, (gd q832 rfl), (gd q833 rfl)⟩ rfl rfl hcat hsz hcs hdg kk
/-! charAt -/
def CtP (P : State → Prop) (l : Launch) (G : GG) (mr : MR) (n : Nat) (y : MethodName) (bytes : ByteArray) (maxL : Nat) (ret : Option FieldType) (d : Nat) (av : List Value) (mem : Mem) (r : Option Value) (mem' : Mem) : Prop :=
  Met l y (Cond.code y bytes maxL ret :: lw_gd) (rmD d) (va_Pc av (fun U => RS G mr n mem U ∧ P U)) (QR G mr n r mem') 0 0 (fun q => G.2.1 ≤ q)
theorem CtP_of {P : State → Prop} {y : MethodName} {bytes : ByteArray} {maxL : Nat} {ret : Option FieldType} {av : List Value} {r : Option Value} (hl : l.stackTraces = false) (hy : plainName y.cls = true) (hlen : (lg_sl av).length ≤ maxL)
    (body : ∀ (p : Program) (e : Env) (s : State) (mid : MethodId) (args : Array Value) (below : List Frame) (meth : Method) (c : Code) (ls : Array Slot), Cx G p l (rmD d) d s mid args meth c bytes maxL y.cls → P s → meth.sig.returnType = ret → lv_has ls maxL (lv_args 0 av) → Rp G mr n mem s s.heap [] → W p l e (rmD d) s mid args below meth c s.heap [] 0 0 (MQ below (QR G mr n r mem') args s 0 0 (fun q => G.2.1 ≤ q)) (F0 mid 0 ls [])) :
    CtP P l G mr n y bytes maxL ret d av mem r mem' := by
  refine Met.ofW (cc := bytes) (maxL := maxL) (ret := ret) hy rfl ?_
  intro p e s m args below meth c s₁ B hml hv
  obtain ⟨rfl, ⟨hP, hK, hb, hE⟩, hPs⟩ := hv
  have hts := atoms_spec (ws := Cond.code y bytes maxL ret :: lw_gd) B.pre
  rw [lg_entry_eq]
  exact body p e s m _ below meth c _ ⟨⟨B.exec, B.bytes, hml, findClass_of_methodNamed B.named, fun w hw => hts w (List.mem_cons_of_mem _ hw)⟩, hK, hb, hE, B.notSynchronized, ⟨Nat.le_refl _, Nat.le_refl _⟩, hl⟩ hPs B.returns (lv_entry av hlen) ⟨hP, va_S.rf⟩
theorem dPre_0 : decode prog_32_method_11_code 0 = .ok (.iload_n 0, 1) := by decide +kernel
theorem dPre_1 : decode prog_32_method_11_code 1 = .ok (.ifCond .lt 8, 3) := by decide +kernel
theorem dPre_4 : decode prog_32_method_11_code 4 = .ok (.iload_n 0, 1) := by decide +kernel
theorem dPre_5 : decode prog_32_method_11_code 5 = .ok (.iload_n 1, 1) := by decide +kernel
theorem dPre_6 : decode prog_32_method_11_code 6 = .ok (.if_icmp .lt 10, 3) := by decide +kernel
theorem dPre_16 : decode prog_32_method_11_code 16 = .ok (.iload_n 0, 1) := by decide +kernel
theorem dPre_17 : decode prog_32_method_11_code 17 = .ok (.ireturn, 1) := by decide +kernel
set_option maxHeartbeats 1000000 in
theorem c_pre (l : Launch) (hl0 : l.stackTraces = false) (G : GG) (mr : MR) (n : Nat) (i N : Int32) (w : Value) (hw : w = .null ∨ ∃ t : Nat, w = .ref t) (h0 : ¬ i < 0) (h1 : i < N) (m0 : Mem) : Ct l G mr n jPre prog_32_method_11_code 3 (some .int) 1 [.int i, .int N, w] m0 (some (.int i)) m0 := by
  rcases hw with rfl | ⟨t, rfl⟩
  · refine Ct_of hl0 (by decide) (Nat.le_of_ble_eq_true rfl) ?_
    intro p e s mid args below meth c ls C hrt hl hR
    have hx := C.1.1
    have hb := C.1.2.1
    have hl : lv_has ls 3 [(0, .int i), (1, .int N), (2, .null)] := hl
    refine lv_iload_n hx hb dPre_0 rfl (lv_at hl 0 rfl) ?_
    refine lv_if_lt (tgt := 9) hx hb dPre_1 (by decide) (fun h => absurd h h0) (fun _ => ?_)
    refine lv_iload_n hx hb dPre_4 rfl (lv_at hl 0 rfl) ?_
    refine lv_iload_n hx hb dPre_5 rfl (lv_at hl 1 rfl) ?_
    refine lv_icmp_lt (tgt := 16) hx hb dPre_6 (by decide) (fun _ => ?_) (fun h => absurd h1 h)
    refine lv_iload_n hx hb dPre_16 rfl (lv_at hl 0 rfl) ?_
    exact r_iret C hrt hR dPre_17
  · refine Ct_of hl0 (by decide) (Nat.le_of_ble_eq_true rfl) ?_
    intro p e s mid args below meth c ls C hrt hl hR
    have hx := C.1.1
    have hb := C.1.2.1
    have hl : lv_has ls 3 [(0, .int i), (1, .int N), (2, .ref t)] := hl
    refine lv_iload_n hx hb dPre_0 rfl (lv_at hl 0 rfl) ?_
    refine lv_if_lt (tgt := 9) hx hb dPre_1 (by decide) (fun h => absurd h h0) (fun _ => ?_)
    refine lv_iload_n hx hb dPre_4 rfl (lv_at hl 0 rfl) ?_
    refine lv_iload_n hx hb dPre_5 rfl (lv_at hl 1 rfl) ?_
    refine lv_icmp_lt (tgt := 16) hx hb dPre_6 (by decide) (fun _ => ?_) (fun h => absurd h1 h)
    refine lv_iload_n hx hb dPre_16 rfl (lv_at hl 0 rfl) ?_
    exact r_iret C hrt hR dPre_17
theorem dChk_0 : decode prog_24_method_155_code 0 = .ok (.iload_n 0, 1) := by decide +kernel
theorem dChk_1 : decode prog_24_method_155_code 1 = .ok (.iload_n 1, 1) := by decide +kernel
theorem dChk_2 : decode prog_24_method_155_code 2 = .ok (.getstatic 1053, 3) := by decide +kernel
theorem dChk_5 : decode prog_24_method_155_code 5 = .ok (.invokestatic 1059, 3) := by decide +kernel
theorem dChk_8 : decode prog_24_method_155_code 8 = .ok (.pop, 1) := by decide +kernel
theorem dChk_9 : decode prog_24_method_155_code 9 = .ok (.return_, 1) := by decide +kernel
theorem wPre : WS "java/lang/String" 1059 jPre prog_32_method_11_code 3 (some .int) 3 := ⟨⟨(gd q861 rfl), (gd q149 rfl), (gd q863 rfl), by decide, by decide, by decide +kernel⟩, (gd q862 rfl)⟩
set_option maxHeartbeats 1000000 in
theorem c_chk (l : Launch) (hl0 : l.stackTraces = false) (G : GG) (mr : MR) (n : Nat) (i N : Int32) (h0 : ¬ i < 0) (h1 : i < N) (m0 : Mem) : Ct l G mr n jChk prog_24_method_155_code 2 none 2 [.int i, .int N] m0 none m0 := by
  refine Ct_of hl0 (by decide) (Nat.le_of_ble_eq_true rfl) ?_
  intro p e s mid args below meth c ls C hrt hl hR
  have hx := C.1.1
  have hb := C.1.2.1
  have hl : lv_has ls 2 [(0, .int i), (1, .int N)] := hl
  refine lv_iload_n hx hb dChk_0 rfl (lv_at hl 0 rfl) ?_
  refine lv_iload_n hx hb dChk_1 rfl (lv_at hl 1 rfl) ?_
  rcases C.2.2.2.1.2.2.2.2.2.2.2 with hZ | ⟨t, hZ⟩
  · refine va_gets hx hb hZ hR.2 C.1.2.2.2.1 (C.1.2.2.2.2 _ (gd q859 rfl)) (fun _ h => h) dChk_2 ?_
    refine r_callS (As := [.int i, .int N, .null]) (rest := []) C hR (c_pre l hl0 G mr n i N .null (Or.inl rfl) h0 h1 m0) (by decide) (by decide) wPre rfl rfl (Nat.le_of_ble_eq_true rfl) hl.1 ⟨Nat.zero_le _, Nat.zero_le _⟩ dChk_5 (fun H locs hR => ?_)
    refine lv_pop hx hb dChk_8 rfl ?_
    exact r_vret C hrt hR dChk_9
  · refine va_gets hx hb hZ hR.2 C.1.2.2.2.1 (C.1.2.2.2.2 _ (gd q859 rfl)) (fun _ h => h) dChk_2 ?_
    refine r_callS (As := [.int i, .int N, .ref t]) (rest := []) C hR (c_pre l hl0 G mr n i N (.ref t) (Or.inr ⟨t, rfl⟩) h0 h1 m0) (by decide) (by decide) wPre rfl rfl (Nat.le_of_ble_eq_true rfl) hl.1 ⟨Nat.zero_le _, Nat.zero_le _⟩ dChk_5 (fun H locs hR => ?_)
    refine lv_pop hx hb dChk_8 rfl ?_
    exact r_vret C hrt hR dChk_9
theorem dLch_0 : decode prog_25_method_2_code 0 = .ok (.iload_n 1, 1) := by decide +kernel
theorem dLch_1 : decode prog_25_method_2_code 1 = .ok (.aload_n 0, 1) := by decide +kernel
theorem dLch_2 : decode prog_25_method_2_code 2 = .ok (.arraylength, 1) := by decide +kernel
theorem dLch_3 : decode prog_25_method_2_code 3 = .ok (.invokestatic 9, 3) := by decide +kernel
theorem dLch_6 : decode prog_25_method_2_code 6 = .ok (.aload_n 0, 1) := by decide +kernel
theorem dLch_7 : decode prog_25_method_2_code 7 = .ok (.iload_n 1, 1) := by decide +kernel
theorem dLch_8 : decode prog_25_method_2_code 8 = .ok (.baload, 1) := by decide +kernel
theorem dLch_9 : decode prog_25_method_2_code 9 = .ok (.sipush 255, 3) := by decide +kernel
theorem dLch_12 : decode prog_25_method_2_code 12 = .ok (.iand, 1) := by decide +kernel
theorem dLch_13 : decode prog_25_method_2_code 13 = .ok (.i2c, 1) := by decide +kernel
theorem dLch_14 : decode prog_25_method_2_code 14 = .ok (.ireturn, 1) := by decide +kernel
theorem wChk : WS "java/lang/StringLatin1" 9 jChk prog_24_method_155_code 2 none 2 := ⟨⟨(gd q856 rfl), (gd q147 rfl), (gd q858 rfl), by decide, by decide, by decide +kernel⟩, (gd q857 rfl)⟩
theorem tx_ch : ∀ tx ∈ strL.map (fun q => q.2.2), tx.length < 100 ∧ ∀ j, j < tx.length → ((txB tx j &&& 255).toUInt32 % 65536).toInt32 = txB tx j ∧ narrow .char (.int (txB tx j)) = .int (txB tx j) := by decide +kernel
theorem lt_nI {i : Int32} {N : Nat} (h : inb i N = true) (hN : N < 100) : ¬ i < 0 ∧ i < nI N := by
  have h1 := inb_in h
  have h2 : ¬ (i < 0 ∨ N ≤ i.toNatClampNeg) := h1
  refine ⟨fun h => h2 (Or.inl h), ?_⟩
  rcases Int.lt_or_le i.toInt (nI N).toInt with h3 | h3
  · exact Int32.lt_iff_toInt_lt.mpr h3
  · exfalso
    have e : (nI N).toInt = N := by
      show (Int32.ofNat N).toInt = N
      rw [Int32.toInt_ofNat_of_lt (by omega)]
    apply h2
    right
    show N ≤ i.toInt.toNat
    omega
set_option maxHeartbeats 1000000 in
theorem c_lch (l : Launch) (hl0 : l.stackTraces = false) (G : GG) (mr : MR) (n : Nat) (tx : String) (htx : tx ∈ strL.map (fun q => q.2.2)) (i : Int32) (hi : inb i tx.length = true) (v : Nat) (m0 : Mem) : CtP (fun U => va_T .byte v tx.length (fun j => .int (txB tx j)) (fun q => G.2.1 ≤ q) U U.heap) l G mr n jLch prog_25_method_2_code 2 (some .char) 3 [.ref v, .int i] m0 (some (.int (txB tx i.toNatClampNeg))) m0 := by
  refine CtP_of hl0 (by decide) (Nat.le_of_ble_eq_true rfl) ?_
  intro p e s mid args below meth c ls C hT hrt hl hR
  have hx := C.1.1
  have hb := C.1.2.1
  have hl : lv_has ls 2 [(0, .ref v), (1, .int i)] := hl
  obtain ⟨k1, k2⟩ := tx_ch tx htx
  obtain ⟨k3, k4⟩ := lt_nI hi k1
  have k5 := k2 i.toNatClampNeg (Nat.not_le.mp (fun h => inb_in hi (Or.inr h)))
  refine lv_iload_n hx hb dLch_0 rfl (lv_at hl 1 rfl) ?_
  refine lv_aload_n hx hb dLch_1 rfl (lv_at hl 0 rfl) ?_
  refine va_tlen hx hb hT hR.2 (v := nI tx.length) rfl dLch_2 ?_
  refine r_callS (As := [.int i, .int (nI tx.length)]) (rest := []) C hR (c_chk l hl0 G mr n i (nI tx.length) k3 k4 m0) (by decide) (by decide) wChk rfl rfl (Nat.le_of_ble_eq_true rfl) hl.1 ⟨Nat.zero_le _, Nat.zero_le _⟩ dLch_3 (fun H locs hR => ?_)
  refine lv_aload_n hx hb dLch_6 rfl (lv_at hl 0 rfl) ?_
  refine lv_iload_n hx hb dLch_7 rfl (lv_at hl 1 rfl) ?_
  refine va_tb hx hb hT hR.2 (inb_in hi) rfl dLch_8 ?_
  refine lv_sipush (v := (255 : Int32)) hx hb dLch_9 (by decide) ?_
  refine lv_iand hx hb dLch_12 ?_
  refine lv_i2c (v := txB tx i.toNatClampNeg) hx hb dLch_13 k5.1 ?_
  exact r_nret C hrt k5.2 hR dLch_14
theorem dCha_0 : decode prog_24_method_56_code 0 = .ok (.aload_n 0, 1) := by decide +kernel
theorem dCha_1 : decode prog_24_method_56_code 1 = .ok (.invokevirtual 492, 3) := by decide +kernel
theorem dCha_4 : decode prog_24_method_56_code 4 = .ok (.ifCond .eq 12, 3) := by decide +kernel
theorem dCha_7 : decode prog_24_method_56_code 7 = .ok (.aload_n 0, 1) := by decide +kernel
theorem dCha_8 : decode prog_24_method_56_code 8 = .ok (.getfield 9, 3) := by decide +kernel
theorem dCha_11 : decode prog_24_method_56_code 11 = .ok (.iload_n 1, 1) := by decide +kernel
theorem dCha_12 : decode prog_24_method_56_code 12 = .ok (.invokestatic 495, 3) := by decide +kernel
theorem dCha_15 : decode prog_24_method_56_code 15 = .ok (.ireturn, 1) := by decide +kernel
theorem wLat : WV "java/lang/String" 492 "java/lang/String" jLat prog_24_method_154_code 1 (some .boolean) 0 := ⟨⟨(gd q849 rfl), (gd q147 rfl), (gd q852 rfl), by decide, by decide, by decide +kernel⟩, (gd q850 rfl), (gd q851 rfl)⟩
theorem wLch : WS "java/lang/String" 495 jLch prog_25_method_2_code 2 (some .char) 2 := ⟨⟨(gd q853 rfl), (gd q148 rfl), (gd q855 rfl), by decide, by decide, by decide +kernel⟩, (gd q854 rfl)⟩
set_option maxHeartbeats 1000000 in
theorem c_cha (l : Launch) (hl0 : l.stackTraces = false) (G : GG) (mr : MR) (n : Nat) (tx : String) (htx : tx ∈ strL.map (fun q => q.2.2)) (i : Int32) (hi : inb i tx.length = true) (m0 : Mem) : Ct l G mr n jCha prog_24_method_56_code 2 (some .char) 4 [.ref (G.2.2.2.2.2.2 tx), .int i] m0 (some (.int (txB tx i.toNatClampNeg))) m0 := by
  refine Ct_of hl0 (by decide) (Nat.le_of_ble_eq_true rfl) ?_
  intro p e s mid args below meth c ls C hrt hl hR
  have hx := C.1.1
  have hb := C.1.2.1
  have hl : lv_has ls 2 [(0, .ref (G.2.2.2.2.2.2 tx)), (1, .int i)] := hl
  obtain ⟨v, h3, h4⟩ := (tx_SA C htx).2.2
  refine lv_aload_n hx hb dCha_0 rfl (lv_at hl 0 rfl) ?_
  refine r_callT (As := []) (rest := []) C hR (c_latin l hl0 G mr n tx htx m0) (by decide) (by decide) (tx_rec C hR htx) wLat rfl rfl (Nat.le_of_ble_eq_true rfl) hl.1 ⟨Nat.zero_le _, Nat.zero_le _⟩ dCha_1 (fun H locs hR => ?_)
  refine lv_if_eq (tgt := 16) hx hb dCha_4 (by decide) (fun h => absurd h (by decide)) (fun _ => ?_)
  refine lv_aload_n hx hb dCha_7 rfl (lv_at hl 0 rfl) ?_
  refine vk_getf hx hb h3 hR.2 C.1.2.2.2.1 (C.1.2.2.2.2 _ (gd q2368 rfl)) (fun _ h => h) dCha_8 ?_
  refine lv_iload_n hx hb dCha_11 rfl (lv_at hl 1 rfl) ?_
  refine r_after hR (va_runS (As := [.ref v, .int i]) (rest := []) C.1 (c_lch l hl0 G mr n tx htx i hi v m0) ⟨callB_g C wLch.1 (by decide) (by decide), C.1.2.2.2.2 _ wLch.2⟩ ⟨fun a U g mk q => ⟨q.1, q.2.1.calling g mk a, va_T.moved (u := U) (U := U.calling g mk a) (Vm.Alike.refl U.vm) q.2.2⟩, fun U hU hW => ⟨rfl, PreRS C hR U hU hW, by dsimp only; rw [hU]; exact va_T.moved hW.alike (h4.kept hR.2.2.1)⟩⟩ rfl rfl hl.1 rfl (lv_room (Nat.le_of_ble_eq_true rfl)) dCha_12 ⟨Nat.zero_le _, Nat.zero_le _⟩) (fun H locs hR => ?_)
  exact r_nret C hrt ((tx_ch tx htx).2 i.toNatClampNeg (Nat.not_le.mp (fun h => inb_in hi (Or.inr h)))).2 hR dCha_15
theorem r_schar {tx : String} {i : Int32} {idx : Nat} (C : Cx G p l R d s mid args meth c cc nL own) (hR : Rp G mr n mem s H locs) (htx : tx ∈ strL.map (fun q => q.2.2)) (hi : inb i tx.length = true) (lk : Cond.methodLink own idx jCha ∈ lw_gd) (hd : 5 ≤ d) (hcat : (rest.map fun v => v.category).sum ≤ 8) (hsz : ls.size = nL) (hcs : cells ≤ R.cells ∧ slots ≤ R.slots) (hdg : decode cc pc = .ok (.invokevirtual idx, 3))
    (kk : ∀ (H : Heap) (locs : List Loc), Rp G mr n mem s H locs → W p l e R s mid args below meth c H locs cells slots Q (F0 mid (pc + 3) ls (.int (txB tx i.toNatClampNeg) :: rest))) : W p l e R s mid args below meth c H locs cells slots Q (F0 mid pc ls (.int i :: .ref (G.2.2.2.2.2.2 tx) :: rest)) :=
  r_callT (As := [.int i]) (rest := rest) C hR (c_cha l C.2.2.2.2.2.2 G mr n tx htx i hi mem) hd (by decide) (tx_rec C hR htx) (Cn := "java/lang/String") (na := 1) ⟨⟨lk, (gd q147 rfl), (gd q848 rfl), by decide, by decide, by decide +kernel⟩, (gd q846 rfl), (gd q847 rfl)⟩ rfl rfl hcat hsz hcs hdg kk
/-! Long.compare -/
def lcI (x y : Int64) : Int32 := if x < y then -1 else if x = y then 0 else 1
theorem dCmp_0 : decode prog_21_method_42_code 0 = .ok (.lload_n 0, 1) := by decide +kernel
theorem dCmp_1 : decode prog_21_method_42_code 1 = .ok (.lload_n 2, 1) := by decide +kernel
theorem dCmp_2 : decode prog_21_method_42_code 2 = .ok (.lcmp, 1) := by decide +kernel
theorem dCmp_3 : decode prog_21_method_42_code 3 = .ok (.ifCond .ge 7, 3) := by decide +kernel
theorem dCmp_6 : decode prog_21_method_42_code 6 = .ok (.iconst (-1), 1) := by decide +kernel
theorem dCmp_7 : decode prog_21_method_42_code 7 = .ok (.goto 14, 3) := by decide +kernel
theorem dCmp_10 : decode prog_21_method_42_code 10 = .ok (.lload_n 0, 1) := by decide +kernel
theorem dCmp_11 : decode prog_21_method_42_code 11 = .ok (.lload_n 2, 1) := by decide +kernel
theorem dCmp_12 : decode prog_21_method_42_code 12 = .ok (.lcmp, 1) := by decide +kernel
theorem dCmp_13 : decode prog_21_method_42_code 13 = .ok (.ifCond .ne 7, 3) := by decide +kernel
theorem dCmp_16 : decode prog_21_method_42_code 16 = .ok (.iconst 0, 1) := by decide +kernel
theorem dCmp_17 : decode prog_21_method_42_code 17 = .ok (.goto 4, 3) := by decide +kernel
theorem dCmp_20 : decode prog_21_method_42_code 20 = .ok (.iconst 1, 1) := by decide +kernel
theorem dCmp_21 : decode prog_21_method_42_code 21 = .ok (.ireturn, 1) := by decide +kernel
set_option maxHeartbeats 1000000 in
theorem c_cmp (l : Launch) (hl0 : l.stackTraces = false) (G : GG) (mr : MR) (n : Nat) (x y : Int64) (m0 : Mem) : Ct l G mr n jCmp prog_21_method_42_code 4 (some .int) 1 [.long x, .long y] m0 (some (.int (lcI x y))) m0 := by
  refine Ct_of hl0 (by decide) (Nat.le_of_ble_eq_true rfl) ?_
  intro p e s mid args below meth c ls C hrt hl hR
  have hx := C.1.1
  have hb := C.1.2.1
  have hl : lv_has ls 4 [(0, .long x), (2, .long y)] := hl
  refine lv_lload_n hx hb dCmp_0 rfl (lv_at hl 0 rfl) ?_
  refine lv_lload_n hx hb dCmp_1 rfl (lv_at hl 1 rfl) ?_
  refine l_ifge (tgt := 10) hx hb dCmp_2 dCmp_3 (by decide) (fun h => ?_) (fun h => ?_)
  · refine lv_lload_n hx hb dCmp_10 rfl (lv_at hl 0 rfl) ?_
    refine lv_lload_n hx hb dCmp_11 rfl (lv_at hl 1 rfl) ?_
    have h1 : ¬ x < y := fun h2 => absurd (Int64.le_iff_toInt_le.mp h) (Int.not_le.mpr (Int64.lt_iff_toInt_lt.mp h2))
    refine l_ifne (tgt := 20) hx hb dCmp_12 dCmp_13 (by decide) (fun h2 => ?_) (fun h2 => ?_)
    · refine lv_iconst (v := (1 : Int32)) hx hb dCmp_20 (by decide) ?_
      rw [show (1 : Int32) = lcI x y by unfold lcI; rw [if_neg h1, if_neg h2]]
      exact r_iret C hrt hR dCmp_21
    · refine lv_iconst (v := (0 : Int32)) hx hb dCmp_16 (by decide) ?_
      refine lv_goto (tgt := 21) hx hb dCmp_17 (by decide) ?_
      rw [show (0 : Int32) = lcI x y by unfold lcI; rw [if_neg h1, if_pos h2]]
      exact r_iret C hrt hR dCmp_21
  · have h1 : x < y := Int64.lt_iff_toInt_lt.mpr (Int.not_le.mp (fun h2 => h (Int64.le_iff_toInt_le.mpr h2)))
    refine lv_iconst (v := (-1 : Int32)) hx hb dCmp_6 (by decide) ?_
    refine lv_goto (tgt := 21) hx hb dCmp_7 (by decide) ?_
    rw [show (-1 : Int32) = lcI x y by unfold lcI; rw [if_pos h1]]
    exact r_iret C hrt hR dCmp_21
theorem r_lcI {x y : Int64} {idx : Nat} (C : Cx G p l R d s mid args meth c cc nL own) (hR : Rp G mr n mem s H locs) (lk : Cond.methodLink own idx jCmp ∈ lw_gd) (hd : 2 ≤ d) (hcat : (rest.map fun v => v.category).sum ≤ 8) (hsz : ls.size = nL) (hcs : cells ≤ R.cells ∧ slots ≤ R.slots) (hdg : decode cc pc = .ok (.invokestatic idx, 3))
    (kk : ∀ (H : Heap) (locs : List Loc), Rp G mr n mem s H locs → W p l e R s mid args below meth c H locs cells slots Q (F0 mid (pc + 3) ls (.int (lcI x y) :: rest))) : W p l e R s mid args below meth c H locs cells slots Q (F0 mid pc ls (.long y :: .long x :: rest)) :=
  r_callS (As := [.long x, .long y]) (rest := rest) C hR (c_cmp l C.2.2.2.2.2.2 G mr n x y mem) hd (by decide) (na := 2) ⟨⟨lk, (gd q159 rfl), (gd q760 rfl), by decide, by decide, by decide +kernel⟩, (gd q759 rfl)⟩ rfl rfl hcat hsz hcs hdg kk
end JDK
theorem txm_0 : "sessions" ∈ strL.map (fun q => q.2.2) := List.mem_of_getElem? (i := 0) rfl
theorem txm_1 : "side" ∈ strL.map (fun q => q.2.2) := List.mem_of_getElem? (i := 1) rfl
theorem txm_2 : "bat" ∈ strL.map (fun q => q.2.2) := List.mem_of_getElem? (i := 2) rfl
theorem txm_3 : "bowl" ∈ strL.map (fun q => q.2.2) := List.mem_of_getElem? (i := 3) rfl
theorem txm_4 : "slot" ∈ strL.map (fun q => q.2.2) := List.mem_of_getElem? (i := 4) rfl
theorem txm_5 : "runs" ∈ strL.map (fun q => q.2.2) := List.mem_of_getElem? (i := 5) rfl
theorem txm_6 : "outs" ∈ strL.map (fun q => q.2.2) := List.mem_of_getElem? (i := 6) rfl
theorem txm_7 : "cloud" ∈ strL.map (fun q => q.2.2) := List.mem_of_getElem? (i := 7) rfl
theorem txm_8 : "tide" ∈ strL.map (fun q => q.2.2) := List.mem_of_getElem? (i := 8) rfl
theorem txm_9 : "rain" ∈ strL.map (fun q => q.2.2) := List.mem_of_getElem? (i := 9) rfl
theorem txm_10 : "margin" ∈ strL.map (fun q => q.2.2) := List.mem_of_getElem? (i := 10) rfl
theorem txm_11 : "drawworth" ∈ strL.map (fun q => q.2.2) := List.mem_of_getElem? (i := 11) rfl
theorem txm_12 : "book" ∈ strL.map (fun q => q.2.2) := List.mem_of_getElem? (i := 12) rfl
theorem txm_13 : "hard" ∈ strL.map (fun q => q.2.2) := List.mem_of_getElem? (i := 13) rfl
theorem txm_14 : "if" ∈ strL.map (fun q => q.2.2) := List.mem_of_getElem? (i := 14) rfl
theorem txm_15 : "not" ∈ strL.map (fun q => q.2.2) := List.mem_of_getElem? (i := 15) rfl
theorem txm_18 : "session" ∈ strL.map (fun q => q.2.2) := List.mem_of_getElem? (i := 18) rfl
theorem txm_19 : "day" ∈ strL.map (fun q => q.2.2) := List.mem_of_getElem? (i := 19) rfl
theorem txm_20 : "innings" ∈ strL.map (fun q => q.2.2) := List.mem_of_getElem? (i := 20) rfl
theorem txm_24 : "and" ∈ strL.map (fun q => q.2.2) := List.mem_of_getElem? (i := 24) rfl
theorem txm_25 : "or" ∈ strL.map (fun q => q.2.2) := List.mem_of_getElem? (i := 25) rfl
