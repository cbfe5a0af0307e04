theorem q781 : Cond.classLink RL 13 "java/lang/IllegalArgumentException" ∈ lw_tbl := mem_tables_1_3 (List.mem_of_getElem? (i := 168) rfl)
theorem q782 : Cond.classLink RL 15 "java/lang/UnsupportedOperationException" ∈ lw_tbl := mem_tables_1_3 (List.mem_of_getElem? (i := 169) rfl)
theorem q783 : Cond.methodLink RL 7 yX10_ground ∈ lw_tbl := mem_tables_1_3 (List.mem_of_getElem? (i := 170) rfl)
theorem q784 : Cond.instanceMethod yX10_ground ∈ lw_tbl := mem_tables_1_3 (List.mem_of_getElem? (i := 171) rfl)
theorem q785 : Cond.selects RX10 yX10_ground yX10_ground ∈ lw_tbl := mem_tables_1_3 (List.mem_of_getElem? (i := 172) rfl)
theorem q786 : Cond.code yX10_ground cX10_ground 1 (some .int) ∈ lw_tbl := mem_tables_1_3 (List.mem_of_getElem? (i := 173) rfl)
theorem q1111 : Cond.methodLink RL 17 yX10_law ∈ lw_tbl := mem_tables_1_5 (List.mem_of_getElem? (i := 18) rfl)
theorem q1112 : Cond.instanceMethod yX10_law ∈ lw_tbl := mem_tables_1_5 (List.mem_of_getElem? (i := 19) rfl)
theorem q1113 : Cond.selects RX10 yX10_law yX10_law ∈ lw_tbl := mem_tables_1_5 (List.mem_of_getElem? (i := 20) rfl)
theorem q1114 : Cond.code yX10_law cX10_law 1 (some .int) ∈ lw_tbl := mem_tables_1_5 (List.mem_of_getElem? (i := 21) rfl)
theorem q1126 : Cond.classLink RL 24 "java/lang/IndexOutOfBoundsException" ∈ lw_tbl := mem_tables_1_5 (List.mem_of_getElem? (i := 33) rfl)
theorem q1127 : Cond.methodLink RL 20 yX10_side ∈ lw_tbl := mem_tables_1_5 (List.mem_of_getElem? (i := 34) rfl)
theorem q1128 : Cond.instanceMethod yX10_side ∈ lw_tbl := mem_tables_1_5 (List.mem_of_getElem? (i := 35) rfl)
theorem q1129 : Cond.selects RX10 yX10_side yX10_side ∈ lw_tbl := mem_tables_1_5 (List.mem_of_getElem? (i := 36) rfl)
theorem q1130 : Cond.code yX10_side cX10_side 3 (some .int) ∈ lw_tbl := mem_tables_1_5 (List.mem_of_getElem? (i := 37) rfl)
theorem q1156 : Cond.methodLink RL 26 yX10_slot ∈ lw_tbl := mem_tables_1_5 (List.mem_of_getElem? (i := 63) rfl)
theorem q1157 : Cond.instanceMethod yX10_slot ∈ lw_tbl := mem_tables_1_5 (List.mem_of_getElem? (i := 64) rfl)
theorem q1158 : Cond.selects RX10 yX10_slot yX10_slot ∈ lw_tbl := mem_tables_1_5 (List.mem_of_getElem? (i := 65) rfl)
theorem q1159 : Cond.code yX10_slot cX10_slot 4 (some .int) ∈ lw_tbl := mem_tables_1_5 (List.mem_of_getElem? (i := 66) rfl)
theorem q1165 : Cond.classLink RL 34 "java/util/NoSuchElementException" ∈ lw_tbl := mem_tables_1_5 (List.mem_of_getElem? (i := 72) rfl)
theorem q1166 : Cond.methodLink RL 30 yX10_session ∈ lw_tbl := mem_tables_1_5 (List.mem_of_getElem? (i := 73) rfl)
theorem q1167 : Cond.instanceMethod yX10_session ∈ lw_tbl := mem_tables_1_5 (List.mem_of_getElem? (i := 74) rfl)
theorem q1168 : Cond.selects RX10 yX10_session yX10_session ∈ lw_tbl := mem_tables_1_5 (List.mem_of_getElem? (i := 75) rfl)
theorem q1169 : Cond.code yX10_session cX10_session 3 (some .int) ∈ lw_tbl := mem_tables_1_5 (List.mem_of_getElem? (i := 76) rfl)
theorem q1190 : Cond.methodLink RL 36 yX10_level ∈ lw_tbl := mem_tables_1_5 (List.mem_of_getElem? (i := 97) rfl)
theorem q1191 : Cond.instanceMethod yX10_level ∈ lw_tbl := mem_tables_1_5 (List.mem_of_getElem? (i := 98) rfl)
theorem q1192 : Cond.selects RX10 yX10_level yX10_level ∈ lw_tbl := mem_tables_1_5 (List.mem_of_getElem? (i := 99) rfl)
theorem q1193 : Cond.code yX10_level cX10_level 4 (some .int) ∈ lw_tbl := mem_tables_1_5 (List.mem_of_getElem? (i := 100) rfl)
theorem q1198 : Cond.methodLink RL 40 yX10_match ∈ lw_tbl := mem_tables_1_5 (List.mem_of_getElem? (i := 105) rfl)
theorem q1199 : Cond.instanceMethod yX10_match ∈ lw_tbl := mem_tables_1_5 (List.mem_of_getElem? (i := 106) rfl)
theorem q1200 : Cond.selects RX10 yX10_match yX10_match ∈ lw_tbl := mem_tables_1_5 (List.mem_of_getElem? (i := 107) rfl)
theorem q1201 : Cond.code yX10_match cX10_match 2 (some .int) ∈ lw_tbl := mem_tables_1_5 (List.mem_of_getElem? (i := 108) rfl)
theorem q1234 : Cond.classLink RL 47 "java/lang/IllegalStateException" ∈ lw_tbl := mem_tables_1_5 (List.mem_of_getElem? (i := 141) rfl)
theorem q1235 : Cond.methodLink RL 44 yX10_toss ∈ lw_tbl := mem_tables_1_5 (List.mem_of_getElem? (i := 142) rfl)
theorem q1236 : Cond.instanceMethod yX10_toss ∈ lw_tbl := mem_tables_1_5 (List.mem_of_getElem? (i := 143) rfl)
theorem q1237 : Cond.selects RX10 yX10_toss yX10_toss ∈ lw_tbl := mem_tables_1_5 (List.mem_of_getElem? (i := 144) rfl)
theorem q1238 : Cond.code yX10_toss cX10_toss 2 (some .int) ∈ lw_tbl := mem_tables_1_5 (List.mem_of_getElem? (i := 145) rfl)
theorem q1262 : Cond.methodLink RL 49 yX10_play ∈ lw_tbl := mem_tables_1_5 (List.mem_of_getElem? (i := 169) rfl)
theorem q1263 : Cond.instanceMethod yX10_play ∈ lw_tbl := mem_tables_1_5 (List.mem_of_getElem? (i := 170) rfl)
theorem q1264 : Cond.selects RX10 yX10_play yX10_play ∈ lw_tbl := mem_tables_1_5 (List.mem_of_getElem? (i := 171) rfl)
theorem q1265 : Cond.code yX10_play cX10_play 2 (some .int) ∈ lw_tbl := mem_tables_1_5 (List.mem_of_getElem? (i := 172) rfl)
theorem q1301 : Cond.methodLink RL 52 yX10_bring ∈ lw_tbl := mem_tables_1_5 (List.mem_of_getElem? (i := 208) rfl)
theorem q1302 : Cond.instanceMethod yX10_bring ∈ lw_tbl := mem_tables_1_5 (List.mem_of_getElem? (i := 209) rfl)
theorem q1303 : Cond.selects RX10 yX10_bring yX10_bring ∈ lw_tbl := mem_tables_1_5 (List.mem_of_getElem? (i := 210) rfl)
theorem q1304 : Cond.code yX10_bring cX10_bring 3 (some .int) ∈ lw_tbl := mem_tables_1_5 (List.mem_of_getElem? (i := 211) rfl)
theorem q1309 : Cond.methodLink RL 55 yX10_hold ∈ lw_tbl := mem_tables_1_5 (List.mem_of_getElem? (i := 216) rfl)
theorem q1310 : Cond.instanceMethod yX10_hold ∈ lw_tbl := mem_tables_1_5 (List.mem_of_getElem? (i := 217) rfl)
theorem q1311 : Cond.selects RX10 yX10_hold yX10_hold ∈ lw_tbl := mem_tables_1_5 (List.mem_of_getElem? (i := 218) rfl)
theorem q1312 : Cond.code yX10_hold cX10_hold 3 (some .int) ∈ lw_tbl := mem_tables_1_5 (List.mem_of_getElem? (i := 219) rfl)
theorem q1321 : Cond.methodLink RL 58 yX10_declare ∈ lw_tbl := mem_tables_1_5 (List.mem_of_getElem? (i := 228) rfl)
theorem q1322 : Cond.instanceMethod yX10_declare ∈ lw_tbl := mem_tables_1_5 (List.mem_of_getElem? (i := 229) rfl)
theorem q1323 : Cond.selects RX10 yX10_declare yX10_declare ∈ lw_tbl := mem_tables_1_5 (List.mem_of_getElem? (i := 230) rfl)
theorem q1324 : Cond.code yX10_declare cX10_declare 2 (some .int) ∈ lw_tbl := mem_tables_1_5 (List.mem_of_getElem? (i := 231) rfl)
theorem q1337 : Cond.methodLink RL 61 yX10_follow ∈ lw_tbl := mem_tables_1_6 (List.mem_of_getElem? (i := 4) rfl)
theorem q1338 : Cond.instanceMethod yX10_follow ∈ lw_tbl := mem_tables_1_6 (List.mem_of_getElem? (i := 5) rfl)
theorem q1339 : Cond.selects RX10 yX10_follow yX10_follow ∈ lw_tbl := mem_tables_1_6 (List.mem_of_getElem? (i := 6) rfl)
theorem q1340 : Cond.code yX10_follow cX10_follow 1 (some .int) ∈ lw_tbl := mem_tables_1_6 (List.mem_of_getElem? (i := 7) rfl)
theorem q1345 : Cond.methodLink RL 64 yX10_here ∈ lw_tbl := mem_tables_1_6 (List.mem_of_getElem? (i := 12) rfl)
theorem q1346 : Cond.instanceMethod yX10_here ∈ lw_tbl := mem_tables_1_6 (List.mem_of_getElem? (i := 13) rfl)
theorem q1347 : Cond.selects RX10 yX10_here yX10_here ∈ lw_tbl := mem_tables_1_6 (List.mem_of_getElem? (i := 14) rfl)
theorem q1348 : Cond.code yX10_here cX10_here 2 (some .long) ∈ lw_tbl := mem_tables_1_6 (List.mem_of_getElem? (i := 15) rfl)
theorem q1372 : Cond.methodLink RL 68 yX10_worth ∈ lw_tbl := mem_tables_1_6 (List.mem_of_getElem? (i := 39) rfl)
theorem q1373 : Cond.instanceMethod yX10_worth ∈ lw_tbl := mem_tables_1_6 (List.mem_of_getElem? (i := 40) rfl)
theorem q1374 : Cond.selects RX10 yX10_worth yX10_worth ∈ lw_tbl := mem_tables_1_6 (List.mem_of_getElem? (i := 41) rfl)
theorem q1375 : Cond.code yX10_worth cX10_worth 3 (some .long) ∈ lw_tbl := mem_tables_1_6 (List.mem_of_getElem? (i := 42) rfl)
theorem q1386 : Cond.methodLink RL 72 yX10_evens ∈ lw_tbl := mem_tables_1_6 (List.mem_of_getElem? (i := 53) rfl)
theorem q1387 : Cond.instanceMethod yX10_evens ∈ lw_tbl := mem_tables_1_6 (List.mem_of_getElem? (i := 54) rfl)
theorem q1388 : Cond.selects RX10 yX10_evens yX10_evens ∈ lw_tbl := mem_tables_1_6 (List.mem_of_getElem? (i := 55) rfl)
theorem q1389 : Cond.code yX10_evens cX10_evens 2 (some .long) ∈ lw_tbl := mem_tables_1_6 (List.mem_of_getElem? (i := 56) rfl)
theorem q1396 : Cond.methodLink RL 75 yX10_after ∈ lw_tbl := mem_tables_1_6 (List.mem_of_getElem? (i := 63) rfl)
theorem q1397 : Cond.instanceMethod yX10_after ∈ lw_tbl := mem_tables_1_6 (List.mem_of_getElem? (i := 64) rfl)
theorem q1398 : Cond.selects RX10 yX10_after yX10_after ∈ lw_tbl := mem_tables_1_6 (List.mem_of_getElem? (i := 65) rfl)
theorem q1399 : Cond.code yX10_after cX10_after 3 (some .long) ∈ lw_tbl := mem_tables_1_6 (List.mem_of_getElem? (i := 66) rfl)
theorem q1411 : Cond.methodLink RL 78 yX10_turning ∈ lw_tbl := mem_tables_1_6 (List.mem_of_getElem? (i := 78) rfl)
theorem q1412 : Cond.instanceMethod yX10_turning ∈ lw_tbl := mem_tables_1_6 (List.mem_of_getElem? (i := 79) rfl)
theorem q1413 : Cond.selects RX10 yX10_turning yX10_turning ∈ lw_tbl := mem_tables_1_6 (List.mem_of_getElem? (i := 80) rfl)
theorem q1414 : Cond.code yX10_turning cX10_turning 11 (some .int) ∈ lw_tbl := mem_tables_1_6 (List.mem_of_getElem? (i := 81) rfl)
theorem q1418 : Cond.methodLink RL 82 yX10_wins ∈ lw_tbl := mem_tables_1_6 (List.mem_of_getElem? (i := 85) rfl)
theorem q1419 : Cond.instanceMethod yX10_wins ∈ lw_tbl := mem_tables_1_6 (List.mem_of_getElem? (i := 86) rfl)
theorem q1420 : Cond.selects RX10 yX10_wins yX10_wins ∈ lw_tbl := mem_tables_1_6 (List.mem_of_getElem? (i := 87) rfl)
theorem q1421 : Cond.code yX10_wins cX10_wins 7 (some .long) ∈ lw_tbl := mem_tables_1_6 (List.mem_of_getElem? (i := 88) rfl)
theorem q1437 : Cond.methodLink RL 86 yX10_declares ∈ lw_tbl := mem_tables_1_6 (List.mem_of_getElem? (i := 104) rfl)
theorem q1438 : Cond.instanceMethod yX10_declares ∈ lw_tbl := mem_tables_1_6 (List.mem_of_getElem? (i := 105) rfl)
theorem q1439 : Cond.selects RX10 yX10_declares yX10_declares ∈ lw_tbl := mem_tables_1_6 (List.mem_of_getElem? (i := 106) rfl)
theorem q1440 : Cond.code yX10_declares cX10_declares 6 (some .boolean) ∈ lw_tbl := mem_tables_1_6 (List.mem_of_getElem? (i := 107) rfl)
theorem q1452 : Cond.methodLink RL 90 yX10_when ∈ lw_tbl := mem_tables_1_6 (List.mem_of_getElem? (i := 119) rfl)
theorem q1453 : Cond.instanceMethod yX10_when ∈ lw_tbl := mem_tables_1_6 (List.mem_of_getElem? (i := 120) rfl)
theorem q1454 : Cond.selects RX10 yX10_when yX10_when ∈ lw_tbl := mem_tables_1_6 (List.mem_of_getElem? (i := 121) rfl)
theorem q1455 : Cond.code yX10_when cX10_when 4 (some .int) ∈ lw_tbl := mem_tables_1_6 (List.mem_of_getElem? (i := 122) rfl)
theorem q1459 : Cond.methodLink RL 93 yX10_enforces ∈ lw_tbl := mem_tables_1_6 (List.mem_of_getElem? (i := 126) rfl)
theorem q1460 : Cond.instanceMethod yX10_enforces ∈ lw_tbl := mem_tables_1_6 (List.mem_of_getElem? (i := 127) rfl)
theorem q1461 : Cond.selects RX10 yX10_enforces yX10_enforces ∈ lw_tbl := mem_tables_1_6 (List.mem_of_getElem? (i := 128) rfl)
theorem q1462 : Cond.code yX10_enforces cX10_enforces 3 (some .boolean) ∈ lw_tbl := mem_tables_1_6 (List.mem_of_getElem? (i := 129) rfl)
theorem q1467 : Cond.methodLink RL 97 yX10_chased ∈ lw_tbl := mem_tables_1_6 (List.mem_of_getElem? (i := 134) rfl)
theorem q1468 : Cond.instanceMethod yX10_chased ∈ lw_tbl := mem_tables_1_6 (List.mem_of_getElem? (i := 135) rfl)
theorem q1469 : Cond.selects RX10 yX10_chased yX10_chased ∈ lw_tbl := mem_tables_1_6 (List.mem_of_getElem? (i := 136) rfl)
theorem q1470 : Cond.code yX10_chased cX10_chased 4 (some .int) ∈ lw_tbl := mem_tables_1_6 (List.mem_of_getElem? (i := 137) rfl)
theorem q1474 : Cond.methodLink RL 100 yX10_holds ∈ lw_tbl := mem_tables_1_6 (List.mem_of_getElem? (i := 141) rfl)
theorem q1475 : Cond.instanceMethod yX10_holds ∈ lw_tbl := mem_tables_1_6 (List.mem_of_getElem? (i := 142) rfl)
theorem q1476 : Cond.selects RX10 yX10_holds yX10_holds ∈ lw_tbl := mem_tables_1_6 (List.mem_of_getElem? (i := 143) rfl)
theorem q1477 : Cond.code yX10_holds cX10_holds 5 (some .boolean) ∈ lw_tbl := mem_tables_1_6 (List.mem_of_getElem? (i := 144) rfl)
theorem q1481 : Cond.methodLink RL 104 yX10_turnover ∈ lw_tbl := mem_tables_1_6 (List.mem_of_getElem? (i := 148) rfl)
theorem q1482 : Cond.instanceMethod yX10_turnover ∈ lw_tbl := mem_tables_1_6 (List.mem_of_getElem? (i := 149) rfl)
theorem q1483 : Cond.selects RX10 yX10_turnover yX10_turnover ∈ lw_tbl := mem_tables_1_6 (List.mem_of_getElem? (i := 150) rfl)
theorem q1484 : Cond.code yX10_turnover cX10_turnover 4 (some .int) ∈ lw_tbl := mem_tables_1_6 (List.mem_of_getElem? (i := 151) rfl)
theorem q1488 : Cond.methodLink RL 107 yX10_line ∈ lw_tbl := mem_tables_1_6 (List.mem_of_getElem? (i := 155) rfl)
theorem q1489 : Cond.instanceMethod yX10_line ∈ lw_tbl := mem_tables_1_6 (List.mem_of_getElem? (i := 156) rfl)
theorem q1490 : Cond.selects RX10 yX10_line yX10_line ∈ lw_tbl := mem_tables_1_6 (List.mem_of_getElem? (i := 157) rfl)
theorem q1491 : Cond.code yX10_line cX10_line 8 (some .int) ∈ lw_tbl := mem_tables_1_6 (List.mem_of_getElem? (i := 158) rfl)
theorem q1495 : Cond.methodLink RL 111 yX10_cost ∈ lw_tbl := mem_tables_1_6 (List.mem_of_getElem? (i := 162) rfl)
theorem q1496 : Cond.instanceMethod yX10_cost ∈ lw_tbl := mem_tables_1_6 (List.mem_of_getElem? (i := 163) rfl)
theorem q1497 : Cond.selects RX10 yX10_cost yX10_cost ∈ lw_tbl := mem_tables_1_6 (List.mem_of_getElem? (i := 164) rfl)
theorem q1498 : Cond.code yX10_cost cX10_cost 15 (some .long) ∈ lw_tbl := mem_tables_1_6 (List.mem_of_getElem? (i := 165) rfl)
theorem q1509 : Cond.methodLink RL 114 yX10_swing ∈ lw_tbl := mem_tables_1_6 (List.mem_of_getElem? (i := 176) rfl)
theorem q1510 : Cond.instanceMethod yX10_swing ∈ lw_tbl := mem_tables_1_6 (List.mem_of_getElem? (i := 177) rfl)
theorem q1511 : Cond.selects RX10 yX10_swing yX10_swing ∈ lw_tbl := mem_tables_1_6 (List.mem_of_getElem? (i := 178) rfl)
theorem q1512 : Cond.code yX10_swing cX10_swing 3 (some .int) ∈ lw_tbl := mem_tables_1_6 (List.mem_of_getElem? (i := 179) rfl)
theorem q1521 : Cond.methodLink RL 117 yX10_book ∈ lw_tbl := mem_tables_1_6 (List.mem_of_getElem? (i := 188) rfl)
theorem q1522 : Cond.instanceMethod yX10_book ∈ lw_tbl := mem_tables_1_6 (List.mem_of_getElem? (i := 189) rfl)
theorem q1523 : Cond.selects RX10 yX10_book yX10_book ∈ lw_tbl := mem_tables_1_6 (List.mem_of_getElem? (i := 190) rfl)
theorem q1524 : Cond.code yX10_book cX10_book 2 (some .int) ∈ lw_tbl := mem_tables_1_6 (List.mem_of_getElem? (i := 191) rfl)
theorem q1528 : Cond.methodLink RL 120 yX10_share ∈ lw_tbl := mem_tables_1_6 (List.mem_of_getElem? (i := 195) rfl)
theorem q1529 : Cond.instanceMethod yX10_share ∈ lw_tbl := mem_tables_1_6 (List.mem_of_getElem? (i := 196) rfl)
theorem q1530 : Cond.selects RX10 yX10_share yX10_share ∈ lw_tbl := mem_tables_1_6 (List.mem_of_getElem? (i := 197) rfl)
theorem q1531 : Cond.code yX10_share cX10_share 4 (some .int) ∈ lw_tbl := mem_tables_1_6 (List.mem_of_getElem? (i := 198) rfl)
theorem q1535 : Cond.methodLink RL 123 yX10_signs ∈ lw_tbl := mem_tables_1_6 (List.mem_of_getElem? (i := 202) rfl)
theorem q1536 : Cond.instanceMethod yX10_signs ∈ lw_tbl := mem_tables_1_6 (List.mem_of_getElem? (i := 203) rfl)
theorem q1537 : Cond.selects RX10 yX10_signs yX10_signs ∈ lw_tbl := mem_tables_1_6 (List.mem_of_getElem? (i := 204) rfl)
theorem q1538 : Cond.code yX10_signs cX10_signs 5 (some .int) ∈ lw_tbl := mem_tables_1_6 (List.mem_of_getElem? (i := 205) rfl)
theorem q1562 : Cond.methodLink RL 126 yX10_best ∈ lw_tbl := mem_tables_1_6 (List.mem_of_getElem? (i := 229) rfl)
theorem q1563 : Cond.instanceMethod yX10_best ∈ lw_tbl := mem_tables_1_6 (List.mem_of_getElem? (i := 230) rfl)
theorem q1564 : Cond.selects RX10 yX10_best yX10_best ∈ lw_tbl := mem_tables_1_6 (List.mem_of_getElem? (i := 231) rfl)
theorem q1565 : Cond.code yX10_best cX10_best 10 (some .int) ∈ lw_tbl := mem_tables_1_6 (List.mem_of_getElem? (i := 232) rfl)
theorem q1575 : Cond.methodLink RL 130 yX10_blind ∈ lw_tbl := mem_tables_1_7 (List.mem_of_getElem? (i := 2) rfl)
theorem q1576 : Cond.instanceMethod yX10_blind ∈ lw_tbl := mem_tables_1_7 (List.mem_of_getElem? (i := 3) rfl)
theorem q1577 : Cond.selects RX10 yX10_blind yX10_blind ∈ lw_tbl := mem_tables_1_7 (List.mem_of_getElem? (i := 4) rfl)
theorem q1578 : Cond.code yX10_blind cX10_blind 2 (some .long) ∈ lw_tbl := mem_tables_1_7 (List.mem_of_getElem? (i := 5) rfl)
theorem q1582 : Cond.methodLink RL 133 yX10_target ∈ lw_tbl := mem_tables_1_7 (List.mem_of_getElem? (i := 9) rfl)
theorem q1583 : Cond.instanceMethod yX10_target ∈ lw_tbl := mem_tables_1_7 (List.mem_of_getElem? (i := 10) rfl)
theorem q1584 : Cond.selects RX10 yX10_target yX10_target ∈ lw_tbl := mem_tables_1_7 (List.mem_of_getElem? (i := 11) rfl)
theorem q1585 : Cond.code yX10_target cX10_target 4 (some .int) ∈ lw_tbl := mem_tables_1_7 (List.mem_of_getElem? (i := 12) rfl)
theorem q1589 : Cond.methodLink RL 136 yX10_streak ∈ lw_tbl := mem_tables_1_7 (List.mem_of_getElem? (i := 16) rfl)
theorem q1590 : Cond.instanceMethod yX10_streak ∈ lw_tbl := mem_tables_1_7 (List.mem_of_getElem? (i := 17) rfl)
theorem q1591 : Cond.selects RX10 yX10_streak yX10_streak ∈ lw_tbl := mem_tables_1_7 (List.mem_of_getElem? (i := 18) rfl)
theorem q1592 : Cond.code yX10_streak cX10_streak 2 (some .int) ∈ lw_tbl := mem_tables_1_7 (List.mem_of_getElem? (i := 19) rfl)
theorem q1601 : Cond.methodLink RL 139 yX10_table ∈ lw_tbl := mem_tables_1_7 (List.mem_of_getElem? (i := 28) rfl)
theorem q1602 : Cond.instanceMethod yX10_table ∈ lw_tbl := mem_tables_1_7 (List.mem_of_getElem? (i := 29) rfl)
theorem q1603 : Cond.selects RX10 yX10_table yX10_table ∈ lw_tbl := mem_tables_1_7 (List.mem_of_getElem? (i := 30) rfl)
theorem q1604 : Cond.code yX10_table cX10_table 8 (some .int) ∈ lw_tbl := mem_tables_1_7 (List.mem_of_getElem? (i := 31) rfl)
theorem q1610 : Cond.methodLink RL 143 yX10_form ∈ lw_tbl := mem_tables_1_7 (List.mem_of_getElem? (i := 37) rfl)
theorem q1611 : Cond.instanceMethod yX10_form ∈ lw_tbl := mem_tables_1_7 (List.mem_of_getElem? (i := 38) rfl)
theorem q1612 : Cond.selects RX10 yX10_form yX10_form ∈ lw_tbl := mem_tables_1_7 (List.mem_of_getElem? (i := 39) rfl)
theorem q1613 : Cond.code yX10_form cX10_form 5 (some .int) ∈ lw_tbl := mem_tables_1_7 (List.mem_of_getElem? (i := 40) rfl)
theorem q1622 : Cond.methodLink RL 146 yX10_hardest ∈ lw_tbl := mem_tables_1_7 (List.mem_of_getElem? (i := 49) rfl)
theorem q1623 : Cond.instanceMethod yX10_hardest ∈ lw_tbl := mem_tables_1_7 (List.mem_of_getElem? (i := 50) rfl)
theorem q1624 : Cond.selects RX10 yX10_hardest yX10_hardest ∈ lw_tbl := mem_tables_1_7 (List.mem_of_getElem? (i := 51) rfl)
theorem q1625 : Cond.code yX10_hardest cX10_hardest 7 (some .int) ∈ lw_tbl := mem_tables_1_7 (List.mem_of_getElem? (i := 52) rfl)
theorem q1629 : Cond.methodLink RL 149 yX10_log ∈ lw_tbl := mem_tables_1_7 (List.mem_of_getElem? (i := 56) rfl)
theorem q1630 : Cond.instanceMethod yX10_log ∈ lw_tbl := mem_tables_1_7 (List.mem_of_getElem? (i := 57) rfl)
theorem q1631 : Cond.selects RX10 yX10_log yX10_log ∈ lw_tbl := mem_tables_1_7 (List.mem_of_getElem? (i := 58) rfl)
theorem q1632 : Cond.code yX10_log cX10_log 3 (some .int) ∈ lw_tbl := mem_tables_1_7 (List.mem_of_getElem? (i := 59) rfl)
section LNK2
variable {G : GG} {mr : MR} {n : Nat} {mem mem' : Mem} {p : Program} {l : Launch} {e : Env} {R : Room} {d : Nat} {s : State} {mid : MethodId} {args : Array Value} {below : List Frame} {meth : Method} {c : Code} {H : Heap} {locs : List Loc} {cells slots : Nat} {Q : State → Prop} {cc : ByteArray} {nL : Nat} {own : String} {pc : Nat} {ls : Array Slot} {rest : List Value}
theorem wL_7 : WV RL 7 RX10 yX10_ground cX10_ground 1 (some .int) 0 := ⟨⟨(gd q783 rfl), (gd q134 rfl), (gd q786 rfl), by decide, by decide, by decide +kernel⟩, (gd q784 rfl), (gd q785 rfl)⟩
theorem wL_17 : WV RL 17 RX10 yX10_law cX10_law 1 (some .int) 0 := ⟨⟨(gd q1111 rfl), (gd q134 rfl), (gd q1114 rfl), by decide, by decide, by decide +kernel⟩, (gd q1112 rfl), (gd q1113 rfl)⟩
theorem wL_20 : WV RL 20 RX10 yX10_side cX10_side 3 (some .int) 2 := ⟨⟨(gd q1127 rfl), (gd q134 rfl), (gd q1130 rfl), by decide, by decide, by decide +kernel⟩, (gd q1128 rfl), (gd q1129 rfl)⟩
theorem wL_26 : WV RL 26 RX10 yX10_slot cX10_slot 4 (some .int) 3 := ⟨⟨(gd q1156 rfl), (gd q134 rfl), (gd q1159 rfl), by decide, by decide, by decide +kernel⟩, (gd q1157 rfl), (gd q1158 rfl)⟩
theorem wL_30 : WV RL 30 RX10 yX10_session cX10_session 3 (some .int) 2 := ⟨⟨(gd q1166 rfl), (gd q134 rfl), (gd q1169 rfl), by decide, by decide, by decide +kernel⟩, (gd q1167 rfl), (gd q1168 rfl)⟩
theorem wL_36 : WV RL 36 RX10 yX10_level cX10_level 4 (some .int) 3 := ⟨⟨(gd q1190 rfl), (gd q134 rfl), (gd q1193 rfl), by decide, by decide, by decide +kernel⟩, (gd q1191 rfl), (gd q1192 rfl)⟩
theorem wL_40 : WV RL 40 RX10 yX10_match cX10_match 2 (some .int) 1 := ⟨⟨(gd q1198 rfl), (gd q134 rfl), (gd q1201 rfl), by decide, by decide, by decide +kernel⟩, (gd q1199 rfl), (gd q1200 rfl)⟩
theorem wL_44 : WV RL 44 RX10 yX10_toss cX10_toss 2 (some .int) 1 := ⟨⟨(gd q1235 rfl), (gd q134 rfl), (gd q1238 rfl), by decide, by decide, by decide +kernel⟩, (gd q1236 rfl), (gd q1237 rfl)⟩
theorem wL_49 : WV RL 49 RX10 yX10_play cX10_play 2 (some .int) 0 := ⟨⟨(gd q1262 rfl), (gd q134 rfl), (gd q1265 rfl), by decide, by decide, by decide +kernel⟩, (gd q1263 rfl), (gd q1264 rfl)⟩
theorem wL_52 : WV RL 52 RX10 yX10_bring cX10_bring 3 (some .int) 1 := ⟨⟨(gd q1301 rfl), (gd q134 rfl), (gd q1304 rfl), by decide, by decide, by decide +kernel⟩, (gd q1302 rfl), (gd q1303 rfl)⟩
theorem wL_55 : WV RL 55 RX10 yX10_hold cX10_hold 3 (some .int) 1 := ⟨⟨(gd q1309 rfl), (gd q134 rfl), (gd q1312 rfl), by decide, by decide, by decide +kernel⟩, (gd q1310 rfl), (gd q1311 rfl)⟩
theorem wL_58 : WV RL 58 RX10 yX10_declare cX10_declare 2 (some .int) 0 := ⟨⟨(gd q1321 rfl), (gd q134 rfl), (gd q1324 rfl), by decide, by decide, by decide +kernel⟩, (gd q1322 rfl), (gd q1323 rfl)⟩
theorem wL_61 : WV RL 61 RX10 yX10_follow cX10_follow 1 (some .int) 0 := ⟨⟨(gd q1337 rfl), (gd q134 rfl), (gd q1340 rfl), by decide, by decide, by decide +kernel⟩, (gd q1338 rfl), (gd q1339 rfl)⟩
theorem wL_64 : WV RL 64 RX10 yX10_here cX10_here 2 (some .long) 1 := ⟨⟨(gd q1345 rfl), (gd q134 rfl), (gd q1348 rfl), by decide, by decide, by decide +kernel⟩, (gd q1346 rfl), (gd q1347 rfl)⟩
theorem wL_68 : WV RL 68 RX10 yX10_worth cX10_worth 3 (some .long) 2 := ⟨⟨(gd q1372 rfl), (gd q134 rfl), (gd q1375 rfl), by decide, by decide, by decide +kernel⟩, (gd q1373 rfl), (gd q1374 rfl)⟩
theorem wL_72 : WV RL 72 RX10 yX10_evens cX10_evens 2 (some .long) 1 := ⟨⟨(gd q1386 rfl), (gd q134 rfl), (gd q1389 rfl), by decide, by decide, by decide +kernel⟩, (gd q1387 rfl), (gd q1388 rfl)⟩
theorem wL_75 : WV RL 75 RX10 yX10_after cX10_after 3 (some .long) 2 := ⟨⟨(gd q1396 rfl), (gd q134 rfl), (gd q1399 rfl), by decide, by decide, by decide +kernel⟩, (gd q1397 rfl), (gd q1398 rfl)⟩
theorem wL_78 : WV RL 78 RX10 yX10_turning cX10_turning 11 (some .int) 1 := ⟨⟨(gd q1411 rfl), (gd q134 rfl), (gd q1414 rfl), by decide, by decide, by decide +kernel⟩, (gd q1412 rfl), (gd q1413 rfl)⟩
theorem wL_82 : WV RL 82 RX10 yX10_wins cX10_wins 7 (some .long) 6 := ⟨⟨(gd q1418 rfl), (gd q134 rfl), (gd q1421 rfl), by decide, by decide, by decide +kernel⟩, (gd q1419 rfl), (gd q1420 rfl)⟩
theorem wL_86 : WV RL 86 RX10 yX10_declares cX10_declares 6 (some .boolean) 5 := ⟨⟨(gd q1437 rfl), (gd q134 rfl), (gd q1440 rfl), by decide, by decide, by decide +kernel⟩, (gd q1438 rfl), (gd q1439 rfl)⟩
theorem wL_90 : WV RL 90 RX10 yX10_when cX10_when 4 (some .int) 2 := ⟨⟨(gd q1452 rfl), (gd q134 rfl), (gd q1455 rfl), by decide, by decide, by decide +kernel⟩, (gd q1453 rfl), (gd q1454 rfl)⟩
theorem wL_93 : WV RL 93 RX10 yX10_enforces cX10_enforces 3 (some .boolean) 2 := ⟨⟨(gd q1459 rfl), (gd q134 rfl), (gd q1462 rfl), by decide, by decide, by decide +kernel⟩, (gd q1460 rfl), (gd q1461 rfl)⟩
theorem wL_97 : WV RL 97 RX10 yX10_chased cX10_chased 4 (some .int) 1 := ⟨⟨(gd q1467 rfl), (gd q134 rfl), (gd q1470 rfl), by decide, by decide, by decide +kernel⟩, (gd q1468 rfl), (gd q1469 rfl)⟩
theorem wL_100 : WV RL 100 RX10 yX10_holds cX10_holds 5 (some .boolean) 4 := ⟨⟨(gd q1474 rfl), (gd q134 rfl), (gd q1477 rfl), by decide, by decide, by decide +kernel⟩, (gd q1475 rfl), (gd q1476 rfl)⟩
theorem wL_104 : WV RL 104 RX10 yX10_turnover cX10_turnover 4 (some .int) 2 := ⟨⟨(gd q1481 rfl), (gd q134 rfl), (gd q1484 rfl), by decide, by decide, by decide +kernel⟩, (gd q1482 rfl), (gd q1483 rfl)⟩
theorem wL_107 : WV RL 107 RX10 yX10_line cX10_line 8 (some .int) 5 := ⟨⟨(gd q1488 rfl), (gd q134 rfl), (gd q1491 rfl), by decide, by decide, by decide +kernel⟩, (gd q1489 rfl), (gd q1490 rfl)⟩
theorem wL_111 : WV RL 111 RX10 yX10_cost cX10_cost 15 (some .long) 1 := ⟨⟨(gd q1495 rfl), (gd q134 rfl), (gd q1498 rfl), by decide, by decide, by decide +kernel⟩, (gd q1496 rfl), (gd q1497 rfl)⟩
theorem wL_114 : WV RL 114 RX10 yX10_swing cX10_swing 3 (some .int) 0 := ⟨⟨(gd q1509 rfl), (gd q134 rfl), (gd q1512 rfl), by decide, by decide, by decide +kernel⟩, (gd q1510 rfl), (gd q1511 rfl)⟩
theorem wL_117 : WV RL 117 RX10 yX10_book cX10_book 2 (some .int) 1 := ⟨⟨(gd q1521 rfl), (gd q134 rfl), (gd q1524 rfl), by decide, by decide, by decide +kernel⟩, (gd q1522 rfl), (gd q1523 rfl)⟩
theorem wL_120 : WV RL 120 RX10 yX10_share cX10_share 4 (some .int) 2 := ⟨⟨(gd q1528 rfl), (gd q134 rfl), (gd q1531 rfl), by decide, by decide, by decide +kernel⟩, (gd q1529 rfl), (gd q1530 rfl)⟩
theorem wL_123 : WV RL 123 RX10 yX10_signs cX10_signs 5 (some .int) 3 := ⟨⟨(gd q1535 rfl), (gd q134 rfl), (gd q1538 rfl), by decide, by decide, by decide +kernel⟩, (gd q1536 rfl), (gd q1537 rfl)⟩
theorem wL_126 : WV RL 126 RX10 yX10_best cX10_best 10 (some .int) 2 := ⟨⟨(gd q1562 rfl), (gd q134 rfl), (gd q1565 rfl), by decide, by decide, by decide +kernel⟩, (gd q1563 rfl), (gd q1564 rfl)⟩
theorem wL_130 : WV RL 130 RX10 yX10_blind cX10_blind 2 (some .long) 1 := ⟨⟨(gd q1575 rfl), (gd q134 rfl), (gd q1578 rfl), by decide, by decide, by decide +kernel⟩, (gd q1576 rfl), (gd q1577 rfl)⟩
theorem wL_133 : WV RL 133 RX10 yX10_target cX10_target 4 (some .int) 1 := ⟨⟨(gd q1582 rfl), (gd q134 rfl), (gd q1585 rfl), by decide, by decide, by decide +kernel⟩, (gd q1583 rfl), (gd q1584 rfl)⟩
theorem wL_136 : WV RL 136 RX10 yX10_streak cX10_streak 2 (some .int) 1 := ⟨⟨(gd q1589 rfl), (gd q134 rfl), (gd q1592 rfl), by decide, by decide, by decide +kernel⟩, (gd q1590 rfl), (gd q1591 rfl)⟩
theorem wL_139 : WV RL 139 RX10 yX10_table cX10_table 8 (some .int) 4 := ⟨⟨(gd q1601 rfl), (gd q134 rfl), (gd q1604 rfl), by decide, by decide, by decide +kernel⟩, (gd q1602 rfl), (gd q1603 rfl)⟩
theorem wL_143 : WV RL 143 RX10 yX10_form cX10_form 5 (some .int) 2 := ⟨⟨(gd q1610 rfl), (gd q134 rfl), (gd q1613 rfl), by decide, by decide, by decide +kernel⟩, (gd q1611 rfl), (gd q1612 rfl)⟩
theorem wL_146 : WV RL 146 RX10 yX10_hardest cX10_hardest 7 (some .int) 2 := ⟨⟨(gd q1622 rfl), (gd q134 rfl), (gd q1625 rfl), by decide, by decide, by decide +kernel⟩, (gd q1623 rfl), (gd q1624 rfl)⟩
theorem wL_149 : WV RL 149 RX10 yX10_log cX10_log 3 (some .int) 2 := ⟨⟨(gd q1629 rfl), (gd q134 rfl), (gd q1632 rfl), by decide, by decide, by decide +kernel⟩, (gd q1630 rfl), (gd q1631 rfl)⟩
end LNK2
def TL_ground : List (Nat × Instr × Nat) := [(0, .aload_n 1, 1), (1, .iconst 0, 1), (2, .aload_n 0, 1), (3, .invokevirtual 7, 3), (6, .i2l, 1), (7, .lastore, 1), (8, .goto 9, 3), (11, .astore_n 2, 1), (12, .iconst 1, 1), (13, .ireturn, 1), (14, .astore_n 2, 1), (15, .iconst 2, 1), (16, .ireturn, 1), (17, .iconst 0, 1), (18, .ireturn, 1)]
theorem DL_ground : TL_ground.all (fun q => decide (decode cL_ground q.1 = .ok (q.2.1, q.2.2))) = true := by decide +kernel
def TL_law : List (Nat × Instr × Nat) := [(0, .aload_n 1, 1), (1, .iconst 0, 1), (2, .aload_n 0, 1), (3, .invokevirtual 17, 3), (6, .i2l, 1), (7, .lastore, 1), (8, .goto 6, 3), (11, .astore_n 2, 1), (12, .iconst 1, 1), (13, .ireturn, 1), (14, .iconst 0, 1), (15, .ireturn, 1)]
theorem DL_law : TL_law.all (fun q => decide (decode cL_law q.1 = .ok (q.2.1, q.2.2))) = true := by decide +kernel
def TL_side : List (Nat × Instr × Nat) := [(0, .aload_n 3, 1), (1, .iconst 0, 1), (2, .aload_n 0, 1), (3, .iload_n 1, 1), (4, .iload_n 2, 1), (5, .invokevirtual 20, 3), (8, .i2l, 1), (9, .lastore, 1), (10, .goto 7, 3), (13, .astore 4, 2), (15, .iconst 1, 1), (16, .ireturn, 1), (17, .iconst 0, 1), (18, .ireturn, 1)]
theorem DL_side : TL_side.all (fun q => decide (decode cL_side q.1 = .ok (q.2.1, q.2.2))) = true := by decide +kernel
def TL_slot : List (Nat × Instr × Nat) := [(0, .aload 4, 2), (2, .iconst 0, 1), (3, .aload_n 0, 1), (4, .iload_n 1, 1), (5, .iload_n 2, 1), (6, .iload_n 3, 1), (7, .invokevirtual 26, 3), (10, .i2l, 1), (11, .lastore, 1), (12, .goto 7, 3), (15, .astore 5, 2), (17, .iconst 1, 1), (18, .ireturn, 1), (19, .iconst 0, 1), (20, .ireturn, 1)]
theorem DL_slot : TL_slot.all (fun q => decide (decode cL_slot q.1 = .ok (q.2.1, q.2.2))) = true := by decide +kernel
def TL_session : List (Nat × Instr × Nat) := [(0, .aload_n 3, 1), (1, .iconst 0, 1), (2, .aload_n 0, 1), (3, .iload_n 1, 1), (4, .iload_n 2, 1), (5, .invokevirtual 30, 3), (8, .i2l, 1), (9, .lastore, 1), (10, .goto 11, 3), (13, .astore 4, 2), (15, .iconst 1, 1), (16, .ireturn, 1), (17, .astore 4, 2), (19, .iconst 2, 1), (20, .ireturn, 1), (21, .iconst 0, 1), (22, .ireturn, 1)]
theorem DL_session : TL_session.all (fun q => decide (decode cL_session q.1 = .ok (q.2.1, q.2.2))) = true := by decide +kernel
def TL_level : List (Nat × Instr × Nat) := [(0, .aload 4, 2), (2, .iconst 0, 1), (3, .aload_n 0, 1), (4, .iload_n 1, 1), (5, .iload_n 2, 1), (6, .iload_n 3, 1), (7, .invokevirtual 36, 3), (10, .i2l, 1), (11, .lastore, 1), (12, .goto 7, 3), (15, .astore 5, 2), (17, .iconst 1, 1), (18, .ireturn, 1), (19, .iconst 0, 1), (20, .ireturn, 1)]
theorem DL_level : TL_level.all (fun q => decide (decode cL_level q.1 = .ok (q.2.1, q.2.2))) = true := by decide +kernel
def TL_match : List (Nat × Instr × Nat) := [(0, .aload_n 2, 1), (1, .iconst 0, 1), (2, .aload_n 0, 1), (3, .iload_n 1, 1), (4, .invokevirtual 40, 3), (7, .i2l, 1), (8, .lastore, 1), (9, .goto 6, 3), (12, .astore_n 3, 1), (13, .iconst 1, 1), (14, .ireturn, 1), (15, .iconst 0, 1), (16, .ireturn, 1)]
theorem DL_match : TL_match.all (fun q => decide (decode cL_match q.1 = .ok (q.2.1, q.2.2))) = true := by decide +kernel
def TL_toss : List (Nat × Instr × Nat) := [(0, .aload_n 2, 1), (1, .iconst 0, 1), (2, .aload_n 0, 1), (3, .iload_n 1, 1), (4, .invokevirtual 44, 3), (7, .i2l, 1), (8, .lastore, 1), (9, .goto 9, 3), (12, .astore_n 3, 1), (13, .iconst 1, 1), (14, .ireturn, 1), (15, .astore_n 3, 1), (16, .iconst 2, 1), (17, .ireturn, 1), (18, .iconst 0, 1), (19, .ireturn, 1)]
theorem DL_toss : TL_toss.all (fun q => decide (decode cL_toss q.1 = .ok (q.2.1, q.2.2))) = true := by decide +kernel
def TL_play : List (Nat × Instr × Nat) := [(0, .aload_n 1, 1), (1, .iconst 0, 1), (2, .aload_n 0, 1), (3, .invokevirtual 49, 3), (6, .i2l, 1), (7, .lastore, 1), (8, .goto 6, 3), (11, .astore_n 2, 1), (12, .iconst 1, 1), (13, .ireturn, 1), (14, .iconst 0, 1), (15, .ireturn, 1)]
theorem DL_play : TL_play.all (fun q => decide (decode cL_play q.1 = .ok (q.2.1, q.2.2))) = true := by decide +kernel
def TL_bring : List (Nat × Instr × Nat) := [(0, .aload_n 2, 1), (1, .iconst 0, 1), (2, .aload_n 0, 1), (3, .iload_n 1, 1), (4, .invokevirtual 52, 3), (7, .i2l, 1), (8, .lastore, 1), (9, .goto 9, 3), (12, .astore_n 3, 1), (13, .iconst 1, 1), (14, .ireturn, 1), (15, .astore_n 3, 1), (16, .iconst 2, 1), (17, .ireturn, 1), (18, .iconst 0, 1), (19, .ireturn, 1)]
theorem DL_bring : TL_bring.all (fun q => decide (decode cL_bring q.1 = .ok (q.2.1, q.2.2))) = true := by decide +kernel
def TL_hold : List (Nat × Instr × Nat) := [(0, .aload_n 2, 1), (1, .iconst 0, 1), (2, .aload_n 0, 1), (3, .iload_n 1, 1), (4, .invokevirtual 55, 3), (7, .i2l, 1), (8, .lastore, 1), (9, .goto 9, 3), (12, .astore_n 3, 1), (13, .iconst 1, 1), (14, .ireturn, 1), (15, .astore_n 3, 1), (16, .iconst 2, 1), (17, .ireturn, 1), (18, .iconst 0, 1), (19, .ireturn, 1)]
theorem DL_hold : TL_hold.all (fun q => decide (decode cL_hold q.1 = .ok (q.2.1, q.2.2))) = true := by decide +kernel
def TL_declare : List (Nat × Instr × Nat) := [(0, .aload_n 1, 1), (1, .iconst 0, 1), (2, .aload_n 0, 1), (3, .invokevirtual 58, 3), (6, .i2l, 1), (7, .lastore, 1), (8, .goto 6, 3), (11, .astore_n 2, 1), (12, .iconst 1, 1), (13, .ireturn, 1), (14, .iconst 0, 1), (15, .ireturn, 1)]
theorem DL_declare : TL_declare.all (fun q => decide (decode cL_declare q.1 = .ok (q.2.1, q.2.2))) = true := by decide +kernel
def TL_follow : List (Nat × Instr × Nat) := [(0, .aload_n 1, 1), (1, .iconst 0, 1), (2, .aload_n 0, 1), (3, .invokevirtual 61, 3), (6, .i2l, 1), (7, .lastore, 1), (8, .goto 6, 3), (11, .astore_n 2, 1), (12, .iconst 1, 1), (13, .ireturn, 1), (14, .iconst 0, 1), (15, .ireturn, 1)]
theorem DL_follow : TL_follow.all (fun q => decide (decode cL_follow q.1 = .ok (q.2.1, q.2.2))) = true := by decide +kernel
def TL_here : List (Nat × Instr × Nat) := [(0, .aload_n 2, 1), (1, .iconst 0, 1), (2, .aload_n 0, 1), (3, .iload_n 1, 1), (4, .invokevirtual 64, 3), (7, .lastore, 1), (8, .goto 9, 3), (11, .astore_n 3, 1), (12, .iconst 1, 1), (13, .ireturn, 1), (14, .astore_n 3, 1), (15, .iconst 2, 1), (16, .ireturn, 1), (17, .iconst 0, 1), (18, .ireturn, 1)]
theorem DL_here : TL_here.all (fun q => decide (decode cL_here q.1 = .ok (q.2.1, q.2.2))) = true := by decide +kernel
def TL_worth : List (Nat × Instr × Nat) := [(0, .aload_n 3, 1), (1, .iconst 0, 1), (2, .aload_n 0, 1), (3, .iload_n 1, 1), (4, .iload_n 2, 1), (5, .invokevirtual 68, 3), (8, .lastore, 1), (9, .goto 11, 3), (12, .astore 4, 2), (14, .iconst 1, 1), (15, .ireturn, 1), (16, .astore 4, 2), (18, .iconst 2, 1), (19, .ireturn, 1), (20, .iconst 0, 1), (21, .ireturn, 1)]
theorem DL_worth : TL_worth.all (fun q => decide (decode cL_worth q.1 = .ok (q.2.1, q.2.2))) = true := by decide +kernel
def TL_evens : List (Nat × Instr × Nat) := [(0, .aload_n 2, 1), (1, .iconst 0, 1), (2, .aload_n 0, 1), (3, .iload_n 1, 1), (4, .invokevirtual 72, 3), (7, .lastore, 1), (8, .goto 6, 3), (11, .astore_n 3, 1), (12, .iconst 1, 1), (13, .ireturn, 1), (14, .iconst 0, 1), (15, .ireturn, 1)]
theorem DL_evens : TL_evens.all (fun q => decide (decode cL_evens q.1 = .ok (q.2.1, q.2.2))) = true := by decide +kernel
def TL_after : List (Nat × Instr × Nat) := [(0, .aload_n 3, 1), (1, .iconst 0, 1), (2, .aload_n 0, 1), (3, .iload_n 1, 1), (4, .iload_n 2, 1), (5, .invokevirtual 75, 3), (8, .lastore, 1), (9, .goto 15, 3), (12, .astore 4, 2), (14, .iconst 1, 1), (15, .ireturn, 1), (16, .astore 4, 2), (18, .iconst 2, 1), (19, .ireturn, 1), (20, .astore 4, 2), (22, .iconst 3, 1), (23, .ireturn, 1), (24, .iconst 0, 1), (25, .ireturn, 1)]
theorem DL_after : TL_after.all (fun q => decide (decode cL_after q.1 = .ok (q.2.1, q.2.2))) = true := by decide +kernel
def TL_turning : List (Nat × Instr × Nat) := [(0, .aload_n 2, 1), (1, .iconst 0, 1), (2, .aload_n 0, 1), (3, .iload_n 1, 1), (4, .invokevirtual 78, 3), (7, .i2l, 1), (8, .lastore, 1), (9, .goto 6, 3), (12, .astore_n 3, 1), (13, .iconst 1, 1), (14, .ireturn, 1), (15, .iconst 0, 1), (16, .ireturn, 1)]
theorem DL_turning : TL_turning.all (fun q => decide (decode cL_turning q.1 = .ok (q.2.1, q.2.2))) = true := by decide +kernel
def TL_wins : List (Nat × Instr × Nat) := [(0, .aload 7, 2), (2, .iconst 0, 1), (3, .aload_n 0, 1), (4, .iload_n 1, 1), (5, .iload_n 2, 1), (6, .iload_n 3, 1), (7, .iload 4, 2), (9, .iload 5, 2), (11, .iload 6, 2), (13, .invokevirtual 82, 3), (16, .lastore, 1), (17, .goto 15, 3), (20, .astore 8, 2), (22, .iconst 1, 1), (23, .ireturn, 1), (24, .astore 8, 2), (26, .iconst 2, 1), (27, .ireturn, 1), (28, .astore 8, 2), (30, .iconst 3, 1), (31, .ireturn, 1), (32, .iconst 0, 1), (33, .ireturn, 1)]
theorem DL_wins : TL_wins.all (fun q => decide (decode cL_wins q.1 = .ok (q.2.1, q.2.2))) = true := by decide +kernel
def TL_declares : List (Nat × Instr × Nat) := [(0, .aload 6, 2), (2, .iconst 0, 1), (3, .aload_n 0, 1), (4, .iload_n 1, 1), (5, .iload_n 2, 1), (6, .iload_n 3, 1), (7, .iload 4, 2), (9, .iload 5, 2), (11, .invokevirtual 86, 3), (14, .ifCond .eq 7, 3), (17, .lconst 1, 1), (18, .goto 4, 3), (21, .lconst 0, 1), (22, .lastore, 1), (23, .goto 11, 3), (26, .astore 7, 2), (28, .iconst 1, 1), (29, .ireturn, 1), (30, .astore 7, 2), (32, .iconst 2, 1), (33, .ireturn, 1), (34, .iconst 0, 1), (35, .ireturn, 1)]
theorem DL_declares : TL_declares.all (fun q => decide (decode cL_declares q.1 = .ok (q.2.1, q.2.2))) = true := by decide +kernel
def TL_when : List (Nat × Instr × Nat) := [(0, .aload_n 3, 1), (1, .iconst 0, 1), (2, .aload_n 0, 1), (3, .iload_n 1, 1), (4, .iload_n 2, 1), (5, .invokevirtual 90, 3), (8, .i2l, 1), (9, .lastore, 1), (10, .goto 11, 3), (13, .astore 4, 2), (15, .iconst 1, 1), (16, .ireturn, 1), (17, .astore 4, 2), (19, .iconst 2, 1), (20, .ireturn, 1), (21, .iconst 0, 1), (22, .ireturn, 1)]
theorem DL_when : TL_when.all (fun q => decide (decode cL_when q.1 = .ok (q.2.1, q.2.2))) = true := by decide +kernel
def TL_enforces : List (Nat × Instr × Nat) := [(0, .aload_n 3, 1), (1, .iconst 0, 1), (2, .aload_n 0, 1), (3, .iload_n 1, 1), (4, .iload_n 2, 1), (5, .invokevirtual 93, 3), (8, .ifCond .eq 7, 3), (11, .lconst 1, 1), (12, .goto 4, 3), (15, .lconst 0, 1), (16, .lastore, 1), (17, .goto 11, 3), (20, .astore 4, 2), (22, .iconst 1, 1), (23, .ireturn, 1), (24, .astore 4, 2), (26, .iconst 2, 1), (27, .ireturn, 1), (28, .iconst 0, 1), (29, .ireturn, 1)]
theorem DL_enforces : TL_enforces.all (fun q => decide (decode cL_enforces q.1 = .ok (q.2.1, q.2.2))) = true := by decide +kernel
def TL_chased : List (Nat × Instr × Nat) := [(0, .aload_n 2, 1), (1, .iconst 0, 1), (2, .aload_n 0, 1), (3, .iload_n 1, 1), (4, .invokevirtual 97, 3), (7, .i2l, 1), (8, .lastore, 1), (9, .goto 6, 3), (12, .astore_n 3, 1), (13, .iconst 1, 1), (14, .ireturn, 1), (15, .iconst 0, 1), (16, .ireturn, 1)]
theorem DL_chased : TL_chased.all (fun q => decide (decode cL_chased q.1 = .ok (q.2.1, q.2.2))) = true := by decide +kernel
def TL_holds : List (Nat × Instr × Nat) := [(0, .aload 5, 2), (2, .iconst 0, 1), (3, .aload_n 0, 1), (4, .iload_n 1, 1), (5, .iload_n 2, 1), (6, .iload_n 3, 1), (7, .iload 4, 2), (9, .invokevirtual 100, 3), (12, .ifCond .eq 7, 3), (15, .lconst 1, 1), (16, .goto 4, 3), (19, .lconst 0, 1), (20, .lastore, 1), (21, .goto 11, 3), (24, .astore 6, 2), (26, .iconst 1, 1), (27, .ireturn, 1), (28, .astore 6, 2), (30, .iconst 2, 1), (31, .ireturn, 1), (32, .iconst 0, 1), (33, .ireturn, 1)]
theorem DL_holds : TL_holds.all (fun q => decide (decode cL_holds q.1 = .ok (q.2.1, q.2.2))) = true := by decide +kernel
def TL_turnover : List (Nat × Instr × Nat) := [(0, .aload_n 3, 1), (1, .iconst 0, 1), (2, .aload_n 0, 1), (3, .iload_n 1, 1), (4, .iload_n 2, 1), (5, .invokevirtual 104, 3), (8, .i2l, 1), (9, .lastore, 1), (10, .goto 11, 3), (13, .astore 4, 2), (15, .iconst 1, 1), (16, .ireturn, 1), (17, .astore 4, 2), (19, .iconst 2, 1), (20, .ireturn, 1), (21, .iconst 0, 1), (22, .ireturn, 1)]
theorem DL_turnover : TL_turnover.all (fun q => decide (decode cL_turnover q.1 = .ok (q.2.1, q.2.2))) = true := by decide +kernel
def TL_line : List (Nat × Instr × Nat) := [(0, .aload 6, 2), (2, .iconst 0, 1), (3, .aload_n 0, 1), (4, .iload_n 1, 1), (5, .iload_n 2, 1), (6, .iload_n 3, 1), (7, .iload 4, 2), (9, .iload 5, 2), (11, .invokevirtual 107, 3), (14, .i2l, 1), (15, .lastore, 1), (16, .goto 11, 3), (19, .astore 7, 2), (21, .iconst 1, 1), (22, .ireturn, 1), (23, .astore 7, 2), (25, .iconst 2, 1), (26, .ireturn, 1), (27, .iconst 0, 1), (28, .ireturn, 1)]
theorem DL_line : TL_line.all (fun q => decide (decode cL_line q.1 = .ok (q.2.1, q.2.2))) = true := by decide +kernel
def TL_cost : List (Nat × Instr × Nat) := [(0, .aload_n 2, 1), (1, .iconst 0, 1), (2, .aload_n 0, 1), (3, .iload_n 1, 1), (4, .invokevirtual 111, 3), (7, .lastore, 1), (8, .goto 9, 3), (11, .astore_n 3, 1), (12, .iconst 1, 1), (13, .ireturn, 1), (14, .astore_n 3, 1), (15, .iconst 2, 1), (16, .ireturn, 1), (17, .iconst 0, 1), (18, .ireturn, 1)]
theorem DL_cost : TL_cost.all (fun q => decide (decode cL_cost q.1 = .ok (q.2.1, q.2.2))) = true := by decide +kernel
def TL_swing : List (Nat × Instr × Nat) := [(0, .aload_n 1, 1), (1, .iconst 0, 1), (2, .aload_n 0, 1), (3, .invokevirtual 114, 3), (6, .i2l, 1), (7, .lastore, 1), (8, .goto 9, 3), (11, .astore_n 2, 1), (12, .iconst 1, 1), (13, .ireturn, 1), (14, .astore_n 2, 1), (15, .iconst 2, 1), (16, .ireturn, 1), (17, .iconst 0, 1), (18, .ireturn, 1)]
theorem DL_swing : TL_swing.all (fun q => decide (decode cL_swing q.1 = .ok (q.2.1, q.2.2))) = true := by decide +kernel
def TL_book : List (Nat × Instr × Nat) := [(0, .aload_n 2, 1), (1, .iconst 0, 1), (2, .aload_n 0, 1), (3, .iload_n 1, 1), (4, .invokevirtual 117, 3), (7, .i2l, 1), (8, .lastore, 1), (9, .goto 6, 3), (12, .astore_n 3, 1), (13, .iconst 1, 1), (14, .ireturn, 1), (15, .iconst 0, 1), (16, .ireturn, 1)]
theorem DL_book : TL_book.all (fun q => decide (decode cL_book q.1 = .ok (q.2.1, q.2.2))) = true := by decide +kernel
def TL_share : List (Nat × Instr × Nat) := [(0, .aload_n 3, 1), (1, .iconst 0, 1), (2, .aload_n 0, 1), (3, .iload_n 1, 1), (4, .iload_n 2, 1), (5, .invokevirtual 120, 3), (8, .i2l, 1), (9, .lastore, 1), (10, .goto 7, 3), (13, .astore 4, 2), (15, .iconst 1, 1), (16, .ireturn, 1), (17, .iconst 0, 1), (18, .ireturn, 1)]
theorem DL_share : TL_share.all (fun q => decide (decode cL_share q.1 = .ok (q.2.1, q.2.2))) = true := by decide +kernel
def TL_signs : List (Nat × Instr × Nat) := [(0, .aload 4, 2), (2, .iconst 0, 1), (3, .aload_n 0, 1), (4, .iload_n 1, 1), (5, .iload_n 2, 1), (6, .iload_n 3, 1), (7, .invokevirtual 123, 3), (10, .i2l, 1), (11, .lastore, 1), (12, .goto 7, 3), (15, .astore 5, 2), (17, .iconst 1, 1), (18, .ireturn, 1), (19, .iconst 0, 1), (20, .ireturn, 1)]
theorem DL_signs : TL_signs.all (fun q => decide (decode cL_signs q.1 = .ok (q.2.1, q.2.2))) = true := by decide +kernel
def TL_best : List (Nat × Instr × Nat) := [(0, .aload_n 3, 1), (1, .iconst 0, 1), (2, .aload_n 0, 1), (3, .iload_n 1, 1), (4, .iload_n 2, 1), (5, .invokevirtual 126, 3), (8, .i2l, 1), (9, .lastore, 1), (10, .goto 7, 3), (13, .astore 4, 2), (15, .iconst 1, 1), (16, .ireturn, 1), (17, .iconst 0, 1), (18, .ireturn, 1)]
theorem DL_best : TL_best.all (fun q => decide (decode cL_best q.1 = .ok (q.2.1, q.2.2))) = true := by decide +kernel
def TL_blind : List (Nat × Instr × Nat) := [(0, .aload_n 2, 1), (1, .iconst 0, 1), (2, .aload_n 0, 1), (3, .iload_n 1, 1), (4, .invokevirtual 130, 3), (7, .lastore, 1), (8, .goto 9, 3), (11, .astore_n 3, 1), (12, .iconst 1, 1), (13, .ireturn, 1), (14, .astore_n 3, 1), (15, .iconst 2, 1), (16, .ireturn, 1), (17, .iconst 0, 1), (18, .ireturn, 1)]
theorem DL_blind : TL_blind.all (fun q => decide (decode cL_blind q.1 = .ok (q.2.1, q.2.2))) = true := by decide +kernel
def TL_target : List (Nat × Instr × Nat) := [(0, .aload_n 2, 1), (1, .iconst 0, 1), (2, .aload_n 0, 1), (3, .iload_n 1, 1), (4, .invokevirtual 133, 3), (7, .i2l, 1), (8, .lastore, 1), (9, .goto 6, 3), (12, .astore_n 3, 1), (13, .iconst 1, 1), (14, .ireturn, 1), (15, .iconst 0, 1), (16, .ireturn, 1)]
theorem DL_target : TL_target.all (fun q => decide (decode cL_target q.1 = .ok (q.2.1, q.2.2))) = true := by decide +kernel
def TL_streak : List (Nat × Instr × Nat) := [(0, .aload_n 2, 1), (1, .iconst 0, 1), (2, .aload_n 0, 1), (3, .iload_n 1, 1), (4, .invokevirtual 136, 3), (7, .i2l, 1), (8, .lastore, 1), (9, .goto 6, 3), (12, .astore_n 3, 1), (13, .iconst 1, 1), (14, .ireturn, 1), (15, .iconst 0, 1), (16, .ireturn, 1)]
theorem DL_streak : TL_streak.all (fun q => decide (decode cL_streak q.1 = .ok (q.2.1, q.2.2))) = true := by decide +kernel
def TL_table : List (Nat × Instr × Nat) := [(0, .aload 5, 2), (2, .iconst 0, 1), (3, .aload_n 0, 1), (4, .iload_n 1, 1), (5, .iload_n 2, 1), (6, .iload_n 3, 1), (7, .iload 4, 2), (9, .invokevirtual 139, 3), (12, .i2l, 1), (13, .lastore, 1), (14, .goto 7, 3), (17, .astore 6, 2), (19, .iconst 1, 1), (20, .ireturn, 1), (21, .iconst 0, 1), (22, .ireturn, 1)]
theorem DL_table : TL_table.all (fun q => decide (decode cL_table q.1 = .ok (q.2.1, q.2.2))) = true := by decide +kernel
def TL_form : List (Nat × Instr × Nat) := [(0, .aload_n 3, 1), (1, .iconst 0, 1), (2, .aload_n 0, 1), (3, .iload_n 1, 1), (4, .iload_n 2, 1), (5, .invokevirtual 143, 3), (8, .i2l, 1), (9, .lastore, 1), (10, .goto 11, 3), (13, .astore 4, 2), (15, .iconst 1, 1), (16, .ireturn, 1), (17, .astore 4, 2), (19, .iconst 2, 1), (20, .ireturn, 1), (21, .iconst 0, 1), (22, .ireturn, 1)]
theorem DL_form : TL_form.all (fun q => decide (decode cL_form q.1 = .ok (q.2.1, q.2.2))) = true := by decide +kernel
def TL_hardest : List (Nat × Instr × Nat) := [(0, .aload_n 3, 1), (1, .iconst 0, 1), (2, .aload_n 0, 1), (3, .iload_n 1, 1), (4, .iload_n 2, 1), (5, .invokevirtual 146, 3), (8, .i2l, 1), (9, .lastore, 1), (10, .goto 7, 3), (13, .astore 4, 2), (15, .iconst 1, 1), (16, .ireturn, 1), (17, .iconst 0, 1), (18, .ireturn, 1)]
theorem DL_hardest : TL_hardest.all (fun q => decide (decode cL_hardest q.1 = .ok (q.2.1, q.2.2))) = true := by decide +kernel
def TL_log : List (Nat × Instr × Nat) := [(0, .aload_n 3, 1), (1, .iconst 0, 1), (2, .aload_n 0, 1), (3, .iload_n 1, 1), (4, .iload_n 2, 1), (5, .invokevirtual 149, 3), (8, .i2l, 1), (9, .lastore, 1), (10, .goto 7, 3), (13, .astore 4, 2), (15, .iconst 1, 1), (16, .ireturn, 1), (17, .iconst 0, 1), (18, .ireturn, 1)]
theorem DL_log : TL_log.all (fun q => decide (decode cL_log q.1 = .ok (q.2.1, q.2.2))) = true := by decide +kernel
