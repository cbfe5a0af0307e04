theorem q165 : Cond.methodLink RX10 1 Lib.objectInit ∈ lw_tbl := mem_tables_1_1 (List.mem_of_getElem? (i := 32) rfl)
theorem q166 : Cond.instanceMethod Lib.objectInit ∈ lw_tbl := mem_tables_1_1 (List.mem_of_getElem? (i := 33) rfl)
theorem q167 : Cond.code Lib.objectInit ⟨#[0xb1]⟩ 1 none ∈ lw_tbl := mem_tables_1_1 (List.mem_of_getElem? (i := 34) rfl)
theorem q168 : Cond.classLink RX10 20 RX7 ∈ lw_tbl := mem_tables_1_1 (List.mem_of_getElem? (i := 35) rfl)
theorem q169 : Cond.instantiable RX7 9 ∈ lw_tbl := mem_tables_1_1 (List.mem_of_getElem? (i := 36) rfl)
theorem q171 : Cond.instanceMethod yX7_init ∈ lw_tbl := mem_tables_1_1 (List.mem_of_getElem? (i := 38) rfl)
theorem q172 : Cond.code yX7_init cX7_init 1 none ∈ lw_tbl := mem_tables_1_1 (List.mem_of_getElem? (i := 39) rfl)
theorem q173 : Cond.methodLink RX7 5 Lib.objectInit ∈ lw_tbl := mem_tables_1_1 (List.mem_of_getElem? (i := 40) rfl)
theorem q174 : Cond.classLink RX7 11 RX1 ∈ lw_tbl := mem_tables_1_1 (List.mem_of_getElem? (i := 41) rfl)
theorem q175 : Cond.instantiable RX1 14 ∈ lw_tbl := mem_tables_1_1 (List.mem_of_getElem? (i := 42) rfl)
theorem q176 : Cond.methodLink RX7 13 yX1_init ∈ lw_tbl := mem_tables_1_1 (List.mem_of_getElem? (i := 43) rfl)
theorem q177 : Cond.instanceMethod yX1_init ∈ lw_tbl := mem_tables_1_1 (List.mem_of_getElem? (i := 44) rfl)
theorem q178 : Cond.code yX1_init cX1_init 2 none ∈ lw_tbl := mem_tables_1_1 (List.mem_of_getElem? (i := 45) rfl)
theorem q179 : Cond.methodLink RX1 3 Lib.objectInit ∈ lw_tbl := mem_tables_1_1 (List.mem_of_getElem? (i := 46) rfl)
theorem q180 : Cond.classLink RX1 46 RX3 ∈ lw_tbl := mem_tables_1_1 (List.mem_of_getElem? (i := 47) rfl)
theorem q181 : Cond.instantiable RX3 5 ∈ lw_tbl := mem_tables_1_1 (List.mem_of_getElem? (i := 48) rfl)
theorem q183 : Cond.instanceMethod yX3_init ∈ lw_tbl := mem_tables_1_1 (List.mem_of_getElem? (i := 50) rfl)
theorem q184 : Cond.code yX3_init cX3_init 1 none ∈ lw_tbl := mem_tables_1_1 (List.mem_of_getElem? (i := 51) rfl)
theorem q185 : Cond.methodLink RX3 3 Lib.objectInit ∈ lw_tbl := mem_tables_1_1 (List.mem_of_getElem? (i := 52) rfl)
theorem q206 : Cond.arrayClass .int ∈ lw_tbl := mem_tables_1_1 (List.mem_of_getElem? (i := 73) rfl)
theorem q207 : Cond.classLink RX1 53 RX0 ∈ lw_tbl := mem_tables_1_1 (List.mem_of_getElem? (i := 74) rfl)
theorem q208 : Cond.instantiable RX0 2 ∈ lw_tbl := mem_tables_1_1 (List.mem_of_getElem? (i := 75) rfl)
theorem q210 : Cond.instanceMethod yX0_init ∈ lw_tbl := mem_tables_1_1 (List.mem_of_getElem? (i := 77) rfl)
theorem q211 : Cond.code yX0_init cX0_init 1 none ∈ lw_tbl := mem_tables_1_1 (List.mem_of_getElem? (i := 78) rfl)
theorem q212 : Cond.methodLink RX0 3 Lib.objectInit ∈ lw_tbl := mem_tables_1_1 (List.mem_of_getElem? (i := 79) rfl)
theorem q284 : Cond.constant RX7 18 (193050 : Int32) ∈ lw_tbl := mem_tables_1_1 (List.mem_of_getElem? (i := 151) rfl)
theorem q287 : Cond.fieldLink RX10 27 "TossGround$Odds" "ground" "LTossGround$Ground;" ∈ lw_tbl := mem_tables_1_1 (List.mem_of_getElem? (i := 154) rfl)
theorem q315 : Cond.arrayClass .long ∈ lw_tbl := mem_tables_1_1 (List.mem_of_getElem? (i := 182) rfl)
theorem q316 : Cond.classLink RX10 34 RX5 ∈ lw_tbl := mem_tables_1_1 (List.mem_of_getElem? (i := 183) rfl)
theorem q317 : Cond.instantiable RX5 11 ∈ lw_tbl := mem_tables_1_1 (List.mem_of_getElem? (i := 184) rfl)
theorem q319 : Cond.instanceMethod yX5_init ∈ lw_tbl := mem_tables_1_1 (List.mem_of_getElem? (i := 186) rfl)
theorem q320 : Cond.code yX5_init cX5_init 1 none ∈ lw_tbl := mem_tables_1_1 (List.mem_of_getElem? (i := 187) rfl)
theorem q321 : Cond.methodLink RX5 3 Lib.objectInit ∈ lw_tbl := mem_tables_1_1 (List.mem_of_getElem? (i := 188) rfl)
theorem q364 : Cond.classLink RX10 44 RX8 ∈ lw_tbl := mem_tables_1_1 (List.mem_of_getElem? (i := 231) rfl)
theorem q365 : Cond.instantiable RX8 3 ∈ lw_tbl := mem_tables_1_1 (List.mem_of_getElem? (i := 232) rfl)
theorem q366 : Cond.methodLink RX10 46 yX8_init ∈ lw_tbl := mem_tables_1_1 (List.mem_of_getElem? (i := 233) rfl)
theorem q367 : Cond.instanceMethod yX8_init ∈ lw_tbl := mem_tables_1_1 (List.mem_of_getElem? (i := 234) rfl)
theorem q368 : Cond.code yX8_init cX8_init 2 none ∈ lw_tbl := mem_tables_1_1 (List.mem_of_getElem? (i := 235) rfl)
theorem q369 : Cond.methodLink RX8 1 Lib.objectInit ∈ lw_tbl := mem_tables_1_1 (List.mem_of_getElem? (i := 236) rfl)
theorem q370 : Cond.classLink RX8 16 RX5 ∈ lw_tbl := mem_tables_1_1 (List.mem_of_getElem? (i := 237) rfl)
theorem q384 : Cond.classLink RX10 51 RX2 ∈ lw_tbl := mem_tables_1_2 (List.mem_of_getElem? (i := 11) rfl)
theorem q385 : Cond.instantiable RX2 11 ∈ lw_tbl := mem_tables_1_2 (List.mem_of_getElem? (i := 12) rfl)
theorem q387 : Cond.instanceMethod yX2_init ∈ lw_tbl := mem_tables_1_2 (List.mem_of_getElem? (i := 14) rfl)
theorem q388 : Cond.code yX2_init cX2_init 1 none ∈ lw_tbl := mem_tables_1_2 (List.mem_of_getElem? (i := 15) rfl)
theorem q390 : Cond.instanceMethod yX9_init ∈ lw_tbl := mem_tables_1_2 (List.mem_of_getElem? (i := 17) rfl)
theorem q391 : Cond.code yX9_init cX9_init 1 none ∈ lw_tbl := mem_tables_1_2 (List.mem_of_getElem? (i := 18) rfl)
theorem q392 : Cond.methodLink RX9 3 Lib.objectInit ∈ lw_tbl := mem_tables_1_2 (List.mem_of_getElem? (i := 19) rfl)
theorem q431 : Cond.classLink RX10 58 RX4 ∈ lw_tbl := mem_tables_1_2 (List.mem_of_getElem? (i := 58) rfl)
theorem q432 : Cond.instantiable RX4 8 ∈ lw_tbl := mem_tables_1_2 (List.mem_of_getElem? (i := 59) rfl)
theorem q434 : Cond.instanceMethod yX4_init ∈ lw_tbl := mem_tables_1_2 (List.mem_of_getElem? (i := 61) rfl)
theorem q435 : Cond.code yX4_init cX4_init 1 none ∈ lw_tbl := mem_tables_1_2 (List.mem_of_getElem? (i := 62) rfl)
theorem q437 : Cond.classLink RX4 9 RX3 ∈ lw_tbl := mem_tables_1_2 (List.mem_of_getElem? (i := 64) rfl)
theorem q451 : Cond.classLink RX10 65 RX6 ∈ lw_tbl := mem_tables_1_2 (List.mem_of_getElem? (i := 78) rfl)
theorem q452 : Cond.instantiable RX6 2 ∈ lw_tbl := mem_tables_1_2 (List.mem_of_getElem? (i := 79) rfl)
theorem q454 : Cond.instanceMethod yX6_init ∈ lw_tbl := mem_tables_1_2 (List.mem_of_getElem? (i := 81) rfl)
theorem q455 : Cond.code yX6_init cX6_init 1 none ∈ lw_tbl := mem_tables_1_2 (List.mem_of_getElem? (i := 82) rfl)
theorem q456 : Cond.methodLink RX6 1 Lib.objectInit ∈ lw_tbl := mem_tables_1_2 (List.mem_of_getElem? (i := 83) rfl)
theorem q464 : Cond.classLink RX10 72 RX1 ∈ lw_tbl := mem_tables_1_2 (List.mem_of_getElem? (i := 91) rfl)
theorem q465 : Cond.methodLink RX10 74 yX1_init ∈ lw_tbl := mem_tables_1_2 (List.mem_of_getElem? (i := 92) rfl)
theorem q1071 : Cond.arrayClass .byte ∈ lw_tbl := mem_tables_1_4 (List.mem_of_getElem? (i := 218) rfl)
theorem q1642 : Cond.methodLink RX11 7 Lib.objectInit ∈ lw_tbl := mem_tables_1_7 (List.mem_of_getElem? (i := 69) rfl)
theorem q1643 : Cond.constant RX11 39 (42900 : Int32) ∈ lw_tbl := mem_tables_1_7 (List.mem_of_getElem? (i := 70) rfl)
section LNK4
variable {G : GG} {mr : MR} {n : Nat} {mem mem' : Mem} {p : Program} {l : Launch} {e : Env} {R : Room} {d : Nat} {s : State} {mid : MethodId} {args : Array Value} {below : List Frame} {meth : Method} {c : Code} {H : Heap} {locs : List Loc} {cells slots : Nat} {Q : State → Prop} {cc : ByteArray} {nL : Nat} {own : String} {pc : Nat} {ls : Array Slot} {rest : List Value}
theorem wkX1_48 : WKN RX1 48 yX3_init cX3_init 1 := ⟨by decide +kernel, (gd q137 rfl), (gd q184 rfl), by decide, by decide, by decide +kernel, rfl, (gd q183 rfl)⟩
theorem wkX1_55 : WKN RX1 55 yX0_init cX0_init 1 := ⟨by decide +kernel, (gd q138 rfl), (gd q211 rfl), by decide, by decide, by decide +kernel, rfl, (gd q210 rfl)⟩
theorem wkX7_13 : WK RX7 13 yX1_init cX1_init 2 := ⟨⟨(gd q176 rfl), (gd q136 rfl), (gd q178 rfl), by decide, by decide, by decide +kernel⟩, rfl, (gd q177 rfl)⟩
theorem wkX8_22 : WKN RX8 22 yX5_init cX5_init 1 := ⟨by decide +kernel, (gd q139 rfl), (gd q320 rfl), by decide, by decide, by decide +kernel, rfl, (gd q319 rfl)⟩
theorem wkX2_3 : WKN RX2 3 yX9_init cX9_init 1 := ⟨by decide +kernel, (gd q141 rfl), (gd q391 rfl), by decide, by decide, by decide +kernel, rfl, (gd q390 rfl)⟩
theorem wkX4_3 : WKN RX4 3 yX9_init cX9_init 1 := ⟨by decide +kernel, (gd q141 rfl), (gd q391 rfl), by decide, by decide, by decide +kernel, rfl, (gd q390 rfl)⟩
theorem wkX4_11 : WKN RX4 11 yX3_init cX3_init 1 := ⟨by decide +kernel, (gd q137 rfl), (gd q184 rfl), by decide, by decide, by decide +kernel, rfl, (gd q183 rfl)⟩
theorem wkX10_22 : WKN RX10 22 yX7_init cX7_init 1 := ⟨by decide +kernel, (gd q135 rfl), (gd q172 rfl), by decide, by decide, by decide +kernel, rfl, (gd q171 rfl)⟩
theorem gX10_27 {o k : Nat} (C : Cx G p l R d s mid args meth c cc nL RX10) (hR : Rp G mr n mem s H locs) (hob : o < n ∧ kd o = (0, 7)) (hk : mr o 0 = some k) (hdg : decode cc pc = .ok (.getfield 27, 3)) (kk : W p l e R s mid args below meth c H locs cells slots Q (F0 mid (pc + 3) ls (.ref (G.2.1 + k) :: rest))) : W p l e R s mid args below meth c H locs cells slots Q (F0 mid pc ls (.ref (G.2.1 + o) :: rest)) := r_get (j := 0) C hR hob rfl iX7 (by decide) (by decide) (gd q287 rfl) (fun _ h => h) (fv_R rfl hk) hdg kk
theorem wkX10_36 : WKN RX10 36 yX5_init cX5_init 1 := ⟨by decide +kernel, (gd q139 rfl), (gd q320 rfl), by decide, by decide, by decide +kernel, rfl, (gd q319 rfl)⟩
theorem wkX10_46 : WK RX10 46 yX8_init cX8_init 2 := ⟨⟨(gd q366 rfl), (gd q140 rfl), (gd q368 rfl), by decide, by decide, by decide +kernel⟩, rfl, (gd q367 rfl)⟩
theorem wkX10_53 : WKN RX10 53 yX2_init cX2_init 1 := ⟨by decide +kernel, (gd q142 rfl), (gd q388 rfl), by decide, by decide, by decide +kernel, rfl, (gd q387 rfl)⟩
theorem wkX10_60 : WKN RX10 60 yX4_init cX4_init 1 := ⟨by decide +kernel, (gd q143 rfl), (gd q435 rfl), by decide, by decide, by decide +kernel, rfl, (gd q434 rfl)⟩
theorem wkX10_67 : WKN RX10 67 yX6_init cX6_init 1 := ⟨by decide +kernel, (gd q144 rfl), (gd q455 rfl), by decide, by decide, by decide +kernel, rfl, (gd q454 rfl)⟩
theorem wkX10_74 : WK RX10 74 yX1_init cX1_init 2 := ⟨⟨(gd q465 rfl), (gd q136 rfl), (gd q178 rfl), by decide, by decide, by decide +kernel⟩, rfl, (gd q177 rfl)⟩
end LNK4
def TX5_init : List (Nat × Instr × Nat) := [(0, .aload_n 0, 1), (1, .invokespecial 3, 3), (4, .aload_n 0, 1), (5, .iconst (-1), 1), (6, .putfield 9, 3), (9, .aload_n 0, 1), (10, .iconst 0, 1), (11, .putfield 15, 3), (14, .aload_n 0, 1), (15, .iconst 0, 1), (16, .putfield 18, 3), (19, .aload_n 0, 1), (20, .iconst 0, 1), (21, .putfield 21, 3), (24, .aload_n 0, 1), (25, .iconst (-1), 1), (26, .putfield 24, 3), (29, .aload_n 0, 1), (30, .iconst 0, 1), (31, .putfield 27, 3), (34, .aload_n 0, 1), (35, .iconst 0, 1), (36, .putfield 31, 3), (39, .aload_n 0, 1), (40, .iconst 1, 1), (41, .putfield 34, 3), (44, .aload_n 0, 1), (45, .iconst 0, 1), (46, .putfield 37, 3), (49, .aload_n 0, 1), (50, .iconst 0, 1), (51, .putfield 40, 3), (54, .aload_n 0, 1), (55, .bipush 63, 2), (57, .newarray .int, 2), (59, .putfield 43, 3), (62, .return_, 1)]
theorem DX5_init : TX5_init.all (fun q => decide (decode cX5_init q.1 = .ok (q.2.1, q.2.2))) = true := by decide +kernel
def TX3_init : List (Nat × Instr × Nat) := [(0, .aload_n 0, 1), (1, .invokespecial 3, 3), (4, .aload_n 0, 1), (5, .iconst (-1), 1), (6, .putfield 9, 3), (9, .aload_n 0, 1), (10, .iconst 0, 1), (11, .putfield 15, 3), (14, .aload_n 0, 1), (15, .sipush 400, 3), (18, .newarray .int, 2), (20, .putfield 18, 3), (23, .aload_n 0, 1), (24, .bipush 8, 2), (26, .newarray .int, 2), (28, .putfield 22, 3), (31, .aload_n 0, 1), (32, .bipush 64, 2), (34, .newarray .int, 2), (36, .putfield 25, 3), (39, .return_, 1)]
theorem DX3_init : TX3_init.all (fun q => decide (decode cX3_init q.1 = .ok (q.2.1, q.2.2))) = true := by decide +kernel
def TX0_init : List (Nat × Instr × Nat) := [(0, .aload_n 0, 1), (1, .invokespecial 3, 3), (4, .aload_n 0, 1), (5, .iconst 0, 1), (6, .putfield 9, 3), (9, .aload_n 0, 1), (10, .sipush 180, 3), (13, .newarray .int, 2), (15, .putfield 15, 3), (18, .return_, 1)]
theorem DX0_init : TX0_init.all (fun q => decide (decode cX0_init q.1 = .ok (q.2.1, q.2.2))) = true := by decide +kernel
def TX1_init : List (Nat × Instr × Nat) := [(0, .aload_n 0, 1), (1, .invokespecial 3, 3), (4, .aload_n 0, 1), (5, .bipush 6, 2), (7, .putfield 9, 3), (10, .aload_n 0, 1), (11, .iconst 0, 1), (12, .putfield 15, 3), (15, .aload_n 0, 1), (16, .iconst 0, 1), (17, .putfield 18, 3), (20, .aload_n 0, 1), (21, .iconst 0, 1), (22, .putfield 21, 3), (25, .aload_n 0, 1), (26, .bipush 15, 2), (28, .putfield 24, 3), (31, .aload_n 0, 1), (32, .bipush 40, 2), (34, .putfield 27, 3), (37, .aload_n 0, 1), (38, .iconst 0, 1), (39, .putfield 30, 3), (42, .aload_n 0, 1), (43, .iconst 2, 1), (44, .newarray .int, 2), (46, .putfield 33, 3), (49, .aload_n 0, 1), (50, .iconst 2, 1), (51, .newarray .int, 2), (53, .putfield 37, 3), (56, .aload_n 0, 1), (57, .bipush 16, 2), (59, .newarray .int, 2), (61, .putfield 40, 3), (64, .aload_n 0, 1), (65, .bipush 16, 2), (67, .newarray .int, 2), (69, .putfield 43, 3), (72, .aload_n 0, 1), (73, .new 46, 3), (76, .dup, 1), (77, .invokespecial 48, 3), (80, .putfield 49, 3), (83, .aload_n 0, 1), (84, .new 53, 3), (87, .dup, 1), (88, .invokespecial 55, 3), (91, .putfield 56, 3), (94, .aload_n 0, 1), (95, .bipush 72, 2), (97, .newarray .int, 2), (99, .putfield 60, 3), (102, .iconst 0, 1), (103, .istore_n 1, 1), (104, .iload_n 1, 1), (105, .iconst 2, 1), (106, .if_icmp .ge 23, 3), (109, .aload_n 0, 1), (110, .getfield 33, 3), (113, .iload_n 1, 1), (114, .iconst 5, 1), (115, .iastore, 1), (116, .aload_n 0, 1), (117, .getfield 37, 3), (120, .iload_n 1, 1), (121, .iconst 5, 1), (122, .iastore, 1), (123, .iinc 1 1, 3), (126, .goto (-22), 3), (129, .iconst 0, 1), (130, .istore_n 1, 1), (131, .iload_n 1, 1), (132, .bipush 16, 2), (134, .if_icmp .ge 23, 3), (137, .aload_n 0, 1), (138, .getfield 40, 3), (141, .iload_n 1, 1), (142, .iconst 3, 1), (143, .iastore, 1), (144, .aload_n 0, 1), (145, .getfield 43, 3), (148, .iload_n 1, 1), (149, .iconst 2, 1), (150, .iastore, 1), (151, .iinc 1 1, 3), (154, .goto (-23), 3), (157, .iconst 0, 1), (158, .istore_n 1, 1), (159, .iload_n 1, 1), (160, .bipush 72, 2), (162, .if_icmp .ge 16, 3), (165, .aload_n 0, 1), (166, .getfield 60, 3), (169, .iload_n 1, 1), (170, .iconst (-1), 1), (171, .iastore, 1), (172, .iinc 1 1, 3), (175, .goto (-16), 3), (178, .return_, 1)]
theorem DX1_init : TX1_init.all (fun q => decide (decode cX1_init q.1 = .ok (q.2.1, q.2.2))) = true := by decide +kernel
def TX9_init : List (Nat × Instr × Nat) := [(0, .aload_n 0, 1), (1, .invokespecial 3, 3), (4, .aload_n 0, 1), (5, .sipush 400, 3), (8, .newarray .int, 2), (10, .putfield 9, 3), (13, .aload_n 0, 1), (14, .sipush 401, 3), (17, .newarray .int, 2), (19, .putfield 15, 3), (22, .aload_n 0, 1), (23, .sipush 401, 3), (26, .newarray .int, 2), (28, .putfield 18, 3), (31, .aload_n 0, 1), (32, .sipush 401, 3), (35, .newarray .int, 2), (37, .putfield 21, 3), (40, .aload_n 0, 1), (41, .iconst 0, 1), (42, .putfield 24, 3), (45, .aload_n 0, 1), (46, .iconst 0, 1), (47, .putfield 28, 3), (50, .aload_n 0, 1), (51, .iconst (-1), 1), (52, .putfield 31, 3), (55, .return_, 1)]
theorem DX9_init : TX9_init.all (fun q => decide (decode cX9_init q.1 = .ok (q.2.1, q.2.2))) = true := by decide +kernel
def TX7_init : List (Nat × Instr × Nat) := [(0, .aload_n 0, 1), (1, .invokespecial 5, 3), (4, .aload_n 0, 1), (5, .new 11, 3), (8, .dup, 1), (9, .invokespecial 13, 3), (12, .putfield 14, 3), (15, .aload_n 0, 1), (16, .ldc 18, 2), (18, .newarray .long, 2), (20, .putfield 19, 3), (23, .aload_n 0, 1), (24, .lconst 0, 1), (25, .putfield 23, 3), (28, .aload_n 0, 1), (29, .iconst 1, 1), (30, .putfield 27, 3), (33, .aload_n 0, 1), (34, .iconst 0, 1), (35, .putfield 31, 3), (38, .aload_n 0, 1), (39, .iconst 0, 1), (40, .putfield 35, 3), (43, .aload_n 0, 1), (44, .iconst 0, 1), (45, .putfield 38, 3), (48, .aload_n 0, 1), (49, .ldc2_w 41, 3), (52, .putfield 43, 3), (55, .aload_n 0, 1), (56, .ldc2_w 41, 3), (59, .putfield 46, 3), (62, .return_, 1)]
theorem DX7_init : TX7_init.all (fun q => decide (decode cX7_init q.1 = .ok (q.2.1, q.2.2))) = true := by decide +kernel
def TX8_init : List (Nat × Instr × Nat) := [(0, .aload_n 0, 1), (1, .invokespecial 1, 3), (4, .aload_n 0, 1), (5, .iconst 0, 1), (6, .putfield 7, 3), (9, .aload_n 0, 1), (10, .iconst 0, 1), (11, .putfield 13, 3), (14, .aload_n 0, 1), (15, .bipush 12, 2), (17, .anewarray 16, 3), (20, .putfield 18, 3), (23, .iconst 0, 1), (24, .istore_n 1, 1), (25, .iload_n 1, 1), (26, .bipush 12, 2), (28, .if_icmp .ge 22, 3), (31, .aload_n 0, 1), (32, .getfield 18, 3), (35, .iload_n 1, 1), (36, .new 16, 3), (39, .dup, 1), (40, .invokespecial 22, 3), (43, .aastore, 1), (44, .iinc 1 1, 3), (47, .goto (-22), 3), (50, .return_, 1)]
theorem DX8_init : TX8_init.all (fun q => decide (decode cX8_init q.1 = .ok (q.2.1, q.2.2))) = true := by decide +kernel
def TX2_init : List (Nat × Instr × Nat) := [(0, .aload_n 0, 1), (1, .invokespecial 3, 3), (4, .aload_n 0, 1), (5, .bipush 70, 2), (7, .newarray .int, 2), (9, .putfield 11, 3), (12, .aload_n 0, 1), (13, .iconst 0, 1), (14, .putfield 15, 3), (17, .aload_n 0, 1), (18, .iconst 0, 1), (19, .putfield 19, 3), (22, .aload_n 0, 1), (23, .iconst 0, 1), (24, .putfield 22, 3), (27, .return_, 1)]
theorem DX2_init : TX2_init.all (fun q => decide (decode cX2_init q.1 = .ok (q.2.1, q.2.2))) = true := by decide +kernel
def TX4_init : List (Nat × Instr × Nat) := [(0, .aload_n 0, 1), (1, .invokespecial 3, 3), (4, .aload_n 0, 1), (5, .new 9, 3), (8, .dup, 1), (9, .invokespecial 11, 3), (12, .putfield 12, 3), (15, .return_, 1)]
theorem DX4_init : TX4_init.all (fun q => decide (decode cX4_init q.1 = .ok (q.2.1, q.2.2))) = true := by decide +kernel
def TX6_init : List (Nat × Instr × Nat) := [(0, .aload_n 0, 1), (1, .invokespecial 1, 3), (4, .aload_n 0, 1), (5, .bipush 16, 2), (7, .newarray .int, 2), (9, .putfield 9, 3), (12, .aload_n 0, 1), (13, .bipush 16, 2), (15, .newarray .int, 2), (17, .putfield 13, 3), (20, .return_, 1)]
theorem DX6_init : TX6_init.all (fun q => decide (decode cX6_init q.1 = .ok (q.2.1, q.2.2))) = true := by decide +kernel
def TX10_init : List (Nat × Instr × Nat) := [(0, .aload_n 0, 1), (1, .invokespecial 1, 3), (4, .aload_n 0, 1), (5, .sipush 400, 3), (8, .newarray .int, 2), (10, .putfield 9, 3), (13, .aload_n 0, 1), (14, .iconst 0, 1), (15, .putfield 13, 3), (18, .aload_n 0, 1), (19, .iconst (-1), 1), (20, .putfield 17, 3), (23, .aload_n 0, 1), (24, .new 20, 3), (27, .dup, 1), (28, .invokespecial 22, 3), (31, .putfield 23, 3), (34, .aload_n 0, 1), (35, .aload_n 0, 1), (36, .getfield 23, 3), (39, .getfield 27, 3), (42, .putfield 31, 3), (45, .aload_n 0, 1), (46, .new 34, 3), (49, .dup, 1), (50, .invokespecial 36, 3), (53, .putfield 37, 3), (56, .aload_n 0, 1), (57, .new 34, 3), (60, .dup, 1), (61, .invokespecial 36, 3), (64, .putfield 41, 3), (67, .aload_n 0, 1), (68, .new 44, 3), (71, .dup, 1), (72, .invokespecial 46, 3), (75, .putfield 47, 3), (78, .aload_n 0, 1), (79, .new 51, 3), (82, .dup, 1), (83, .invokespecial 53, 3), (86, .putfield 54, 3), (89, .aload_n 0, 1), (90, .new 58, 3), (93, .dup, 1), (94, .invokespecial 60, 3), (97, .putfield 61, 3), (100, .aload_n 0, 1), (101, .new 65, 3), (104, .dup, 1), (105, .invokespecial 67, 3), (108, .putfield 68, 3), (111, .aload_n 0, 1), (112, .new 72, 3), (115, .dup, 1), (116, .invokespecial 74, 3), (119, .putfield 75, 3), (122, .aload_n 0, 1), (123, .new 34, 3), (126, .dup, 1), (127, .invokespecial 36, 3), (130, .putfield 78, 3), (133, .aload_n 0, 1), (134, .iconst 0, 1), (135, .putfield 81, 3), (138, .return_, 1)]
theorem DX10_init : TX10_init.all (fun q => decide (decode cX10_init q.1 = .ok (q.2.1, q.2.2))) = true := by decide +kernel
def TX11_init : List (Nat × Instr × Nat) := [(0, .aload_n 0, 1), (1, .invokespecial 7, 3), (4, .aload_n 0, 1), (5, .sipush 1972, 3), (8, .newarray .int, 2), (10, .putfield 13, 3), (13, .aload_n 0, 1), (14, .sipush 1135, 3), (17, .newarray .int, 2), (19, .putfield 17, 3), (22, .aload_n 0, 1), (23, .sipush 1135, 3), (26, .newarray .int, 2), (28, .putfield 20, 3), (31, .aload_n 0, 1), (32, .sipush 3576, 3), (35, .newarray .int, 2), (37, .putfield 23, 3), (40, .aload_n 0, 1), (41, .sipush 400, 3), (44, .newarray .byte, 2), (46, .putfield 26, 3), (49, .aload_n 0, 1), (50, .iconst (-1), 1), (51, .putfield 30, 3), (54, .aload_n 0, 1), (55, .iconst 5, 1), (56, .newarray .int, 2), (58, .putfield 33, 3), (61, .aload_n 0, 1), (62, .sipush 400, 3), (65, .newarray .int, 2), (67, .putfield 36, 3), (70, .aload_n 0, 1), (71, .ldc 39, 2), (73, .newarray .int, 2), (75, .putfield 40, 3), (78, .aload_n 0, 1), (79, .ldc 39, 2), (81, .newarray .int, 2), (83, .putfield 43, 3), (86, .aload_n 0, 1), (87, .bipush 6, 2), (89, .newarray .int, 2), (91, .putfield 46, 3), (94, .aload_n 0, 1), (95, .iconst 2, 1), (96, .newarray .long, 2), (98, .putfield 49, 3), (101, .aload_n 0, 1), (102, .sipush 298, 3), (105, .newarray .int, 2), (107, .putfield 53, 3), (110, .aload_n 0, 1), (111, .getfield 13, 3), (114, .iconst 0, 1), (115, .bipush 6, 2), (117, .iastore, 1), (118, .aload_n 0, 1), (119, .getfield 13, 3), (122, .iconst 1, 1), (123, .bipush 15, 2), (125, .iastore, 1), (126, .aload_n 0, 1), (127, .getfield 13, 3), (130, .iconst 2, 1), (131, .bipush 40, 2), (133, .iastore, 1), (134, .aload_n 0, 1), (135, .getfield 13, 3), (138, .bipush 9, 2), (140, .iconst 1, 1), (141, .iastore, 1), (142, .aload_n 0, 1), (143, .getfield 13, 3), (146, .bipush 10, 2), (148, .iconst (-1), 1), (149, .iastore, 1), (150, .aload_n 0, 1), (151, .getfield 13, 3), (154, .bipush 18, 2), (156, .iconst (-1), 1), (157, .iastore, 1), (158, .iconst 0, 1), (159, .istore_n 1, 1), (160, .iload_n 1, 1), (161, .iconst 4, 1), (162, .if_icmp .ge 19, 3), (165, .aload_n 0, 1), (166, .getfield 13, 3), (169, .bipush 19, 2), (171, .iload_n 1, 1), (172, .iadd, 1), (173, .iconst 5, 1), (174, .iastore, 1), (175, .iinc 1 1, 3), (178, .goto (-18), 3), (181, .iconst 0, 1), (182, .istore_n 1, 1), (183, .iload_n 1, 1), (184, .bipush 16, 2), (186, .if_icmp .ge 35, 3), (189, .aload_n 0, 1), (190, .getfield 13, 3), (193, .bipush 23, 2), (195, .iconst 2, 1), (196, .iload_n 1, 1), (197, .imul, 1), (198, .iadd, 1), (199, .iconst 3, 1), (200, .iastore, 1), (201, .aload_n 0, 1), (202, .getfield 13, 3), (205, .bipush 23, 2), (207, .iconst 2, 1), (208, .iload_n 1, 1), (209, .imul, 1), (210, .iadd, 1), (211, .iconst 1, 1), (212, .iadd, 1), (213, .iconst 2, 1), (214, .iastore, 1), (215, .iinc 1 1, 3), (218, .goto (-35), 3), (221, .return_, 1)]
theorem DX11_init : TX11_init.all (fun q => decide (decode cX11_init q.1 = .ok (q.2.1, q.2.2))) = true := by decide +kernel
theorem dvX0 : ∀ j, j < 2 → defaultValue (tyX0 j) = vp_V ((List.range (nf 0)).map (fun j => dv (ft 0 j))) j
  | 0, _ => rfl
  | 1, _ => rfl
  | _ + 2, h => absurd h (by omega)
theorem dvX1 : ∀ j, j < 14 → defaultValue (tyX1 j) = vp_V ((List.range (nf 1)).map (fun j => dv (ft 1 j))) j
  | 0, _ => rfl
  | 1, _ => rfl
  | 2, _ => rfl
  | 3, _ => rfl
  | 4, _ => rfl
  | 5, _ => rfl
  | 6, _ => rfl
  | 7, _ => rfl
  | 8, _ => rfl
  | 9, _ => rfl
  | 10, _ => rfl
  | 11, _ => rfl
  | 12, _ => rfl
  | 13, _ => rfl
  | _ + 14, h => absurd h (by omega)
theorem dvX2 : ∀ j, j < 11 → defaultValue (tyX2 j) = vp_V ((List.range (nf 2)).map (fun j => dv (ft 2 j))) j
  | 0, _ => rfl
  | 1, _ => rfl
  | 2, _ => rfl
  | 3, _ => rfl
  | 4, _ => rfl
  | 5, _ => rfl
  | 6, _ => rfl
  | 7, _ => rfl
  | 8, _ => rfl
  | 9, _ => rfl
  | 10, _ => rfl
  | _ + 11, h => absurd h (by omega)
theorem dvX3 : ∀ j, j < 5 → defaultValue (tyX3 j) = vp_V ((List.range (nf 3)).map (fun j => dv (ft 3 j))) j
  | 0, _ => rfl
  | 1, _ => rfl
  | 2, _ => rfl
  | 3, _ => rfl
  | 4, _ => rfl
  | _ + 5, h => absurd h (by omega)
theorem dvX4 : ∀ j, j < 8 → defaultValue (tyX4 j) = vp_V ((List.range (nf 4)).map (fun j => dv (ft 4 j))) j
  | 0, _ => rfl
  | 1, _ => rfl
  | 2, _ => rfl
  | 3, _ => rfl
  | 4, _ => rfl
  | 5, _ => rfl
  | 6, _ => rfl
  | 7, _ => rfl
  | _ + 8, h => absurd h (by omega)
theorem dvX5 : ∀ j, j < 11 → defaultValue (tyX5 j) = vp_V ((List.range (nf 5)).map (fun j => dv (ft 5 j))) j
  | 0, _ => rfl
  | 1, _ => rfl
  | 2, _ => rfl
  | 3, _ => rfl
  | 4, _ => rfl
  | 5, _ => rfl
  | 6, _ => rfl
  | 7, _ => rfl
  | 8, _ => rfl
  | 9, _ => rfl
  | 10, _ => rfl
  | _ + 11, h => absurd h (by omega)
theorem dvX6 : ∀ j, j < 2 → defaultValue (tyX6 j) = vp_V ((List.range (nf 6)).map (fun j => dv (ft 6 j))) j
  | 0, _ => rfl
  | 1, _ => rfl
  | _ + 2, h => absurd h (by omega)
theorem dvX7 : ∀ j, j < 9 → defaultValue (tyX7 j) = vp_V ((List.range (nf 7)).map (fun j => dv (ft 7 j))) j
  | 0, _ => rfl
  | 1, _ => rfl
  | 2, _ => rfl
  | 3, _ => rfl
  | 4, _ => rfl
  | 5, _ => rfl
  | 6, _ => rfl
  | 7, _ => rfl
  | 8, _ => rfl
  | _ + 9, h => absurd h (by omega)
theorem dvX8 : ∀ j, j < 3 → defaultValue (tyX8 j) = vp_V ((List.range (nf 8)).map (fun j => dv (ft 8 j))) j
  | 0, _ => rfl
  | 1, _ => rfl
  | 2, _ => rfl
  | _ + 3, h => absurd h (by omega)
theorem dvX10 : ∀ j, j < 14 → defaultValue (tyX10 j) = vp_V ((List.range (nf 10)).map (fun j => dv (ft 10 j))) j
  | 0, _ => rfl
  | 1, _ => rfl
  | 2, _ => rfl
  | 3, _ => rfl
  | 4, _ => rfl
  | 5, _ => rfl
  | 6, _ => rfl
  | 7, _ => rfl
  | 8, _ => rfl
  | 9, _ => rfl
  | 10, _ => rfl
  | 11, _ => rfl
  | 12, _ => rfl
  | 13, _ => rfl
  | _ + 14, h => absurd h (by omega)
theorem dvX11 : ∀ j, j < 27 → defaultValue (tyX11 j) = vp_V ((List.range (nf 11)).map (fun j => dv (ft 11 j))) j
  | 0, _ => rfl
  | 1, _ => rfl
  | 2, _ => rfl
  | 3, _ => rfl
  | 4, _ => rfl
  | 5, _ => rfl
  | 6, _ => rfl
  | 7, _ => rfl
  | 8, _ => rfl
  | 9, _ => rfl
  | 10, _ => rfl
  | 11, _ => rfl
  | 12, _ => rfl
  | 13, _ => rfl
  | 14, _ => rfl
  | 15, _ => rfl
  | 16, _ => rfl
  | 17, _ => rfl
  | 18, _ => rfl
  | 19, _ => rfl
  | 20, _ => rfl
  | 21, _ => rfl
  | 22, _ => rfl
  | 23, _ => rfl
  | 24, _ => rfl
  | 25, _ => rfl
  | 26, _ => rfl
  | _ + 27, h => absurd h (by omega)
