theorem q777 : Cond.classLink RL 13 "java/lang/IllegalArgumentException" ∈ lw_tbl := mem_tables_1_3 (List.mem_of_getElem? (i := 168) rfl)
theorem q778 : Cond.classLink RL 15 "java/lang/UnsupportedOperationException" ∈ lw_tbl := mem_tables_1_3 (List.mem_of_getElem? (i := 169) rfl)
theorem q779 : Cond.methodLink RL 7 yX10_ground ∈ lw_tbl := mem_tables_1_3 (List.mem_of_getElem? (i := 170) rfl)
theorem q780 : Cond.instanceMethod yX10_ground ∈ lw_tbl := mem_tables_1_3 (List.mem_of_getElem? (i := 171) rfl)
theorem q781 : Cond.selects RX10 yX10_ground yX10_ground ∈ lw_tbl := mem_tables_1_3 (List.mem_of_getElem? (i := 172) rfl)
theorem q782 : Cond.code yX10_ground cX10_ground 1 (some .int) ∈ lw_tbl := mem_tables_1_3 (List.mem_of_getElem? (i := 173) rfl)
theorem q1107 : Cond.methodLink RL 17 yX10_law ∈ lw_tbl := mem_tables_1_5 (List.mem_of_getElem? (i := 18) rfl)
theorem q1108 : Cond.instanceMethod yX10_law ∈ lw_tbl := mem_tables_1_5 (List.mem_of_getElem? (i := 19) rfl)
theorem q1109 : Cond.selects RX10 yX10_law yX10_law ∈ lw_tbl := mem_tables_1_5 (List.mem_of_getElem? (i := 20) rfl)
theorem q1110 : Cond.code yX10_law cX10_law 1 (some .int) ∈ lw_tbl := mem_tables_1_5 (List.mem_of_getElem? (i := 21) rfl)
theorem q1122 : Cond.classLink RL 24 "java/lang/IndexOutOfBoundsException" ∈ lw_tbl := mem_tables_1_5 (List.mem_of_getElem? (i := 33) rfl)
theorem q1123 : Cond.methodLink RL 20 yX10_side ∈ lw_tbl := mem_tables_1_5 (List.mem_of_getElem? (i := 34) rfl)
theorem q1124 : Cond.instanceMethod yX10_side ∈ lw_tbl := mem_tables_1_5 (List.mem_of_getElem? (i := 35) rfl)
theorem q1125 : Cond.selects RX10 yX10_side yX10_side ∈ lw_tbl := mem_tables_1_5 (List.mem_of_getElem? (i := 36) rfl)
theorem q1126 : Cond.code yX10_side cX10_side 3 (some .int) ∈ lw_tbl := mem_tables_1_5 (List.mem_of_getElem? (i := 37) rfl)
theorem q1152 : Cond.methodLink RL 26 yX10_slot ∈ lw_tbl := mem_tables_1_5 (List.mem_of_getElem? (i := 63) rfl)
theorem q1153 : Cond.instanceMethod yX10_slot ∈ lw_tbl := mem_tables_1_5 (List.mem_of_getElem? (i := 64) rfl)
theorem q1154 : Cond.selects RX10 yX10_slot yX10_slot ∈ lw_tbl := mem_tables_1_5 (List.mem_of_getElem? (i := 65) rfl)
theorem q1155 : Cond.code yX10_slot cX10_slot 4 (some .int) ∈ lw_tbl := mem_tables_1_5 (List.mem_of_getElem? (i := 66) rfl)
theorem q1161 : Cond.classLink RL 34 "java/util/NoSuchElementException" ∈ lw_tbl := mem_tables_1_5 (List.mem_of_getElem? (i := 72) rfl)
theorem q1162 : Cond.methodLink RL 30 yX10_session ∈ lw_tbl := mem_tables_1_5 (List.mem_of_getElem? (i := 73) rfl)
theorem q1163 : Cond.instanceMethod yX10_session ∈ lw_tbl := mem_tables_1_5 (List.mem_of_getElem? (i := 74) rfl)
theorem q1164 : Cond.selects RX10 yX10_session yX10_session ∈ lw_tbl := mem_tables_1_5 (List.mem_of_getElem? (i := 75) rfl)
theorem q1165 : Cond.code yX10_session cX10_session 3 (some .int) ∈ lw_tbl := mem_tables_1_5 (List.mem_of_getElem? (i := 76) rfl)
theorem q1186 : Cond.methodLink RL 36 yX10_level ∈ lw_tbl := mem_tables_1_5 (List.mem_of_getElem? (i := 97) rfl)
theorem q1187 : Cond.instanceMethod yX10_level ∈ lw_tbl := mem_tables_1_5 (List.mem_of_getElem? (i := 98) rfl)
theorem q1188 : Cond.selects RX10 yX10_level yX10_level ∈ lw_tbl := mem_tables_1_5 (List.mem_of_getElem? (i := 99) rfl)
theorem q1189 : Cond.code yX10_level cX10_level 4 (some .int) ∈ lw_tbl := mem_tables_1_5 (List.mem_of_getElem? (i := 100) rfl)
theorem q1194 : Cond.methodLink RL 40 yX10_match ∈ lw_tbl := mem_tables_1_5 (List.mem_of_getElem? (i := 105) rfl)
theorem q1195 : Cond.instanceMethod yX10_match ∈ lw_tbl := mem_tables_1_5 (List.mem_of_getElem? (i := 106) rfl)
theorem q1196 : Cond.selects RX10 yX10_match yX10_match ∈ lw_tbl := mem_tables_1_5 (List.mem_of_getElem? (i := 107) rfl)
theorem q1197 : Cond.code yX10_match cX10_match 2 (some .int) ∈ lw_tbl := mem_tables_1_5 (List.mem_of_getElem? (i := 108) rfl)
theorem q1230 : Cond.classLink RL 47 "java/lang/IllegalStateException" ∈ lw_tbl := mem_tables_1_5 (List.mem_of_getElem? (i := 141) rfl)
theorem q1231 : Cond.methodLink RL 44 yX10_toss ∈ lw_tbl := mem_tables_1_5 (List.mem_of_getElem? (i := 142) rfl)
theorem q1232 : Cond.instanceMethod yX10_toss ∈ lw_tbl := mem_tables_1_5 (List.mem_of_getElem? (i := 143) rfl)
theorem q1233 : Cond.selects RX10 yX10_toss yX10_toss ∈ lw_tbl := mem_tables_1_5 (List.mem_of_getElem? (i := 144) rfl)
theorem q1234 : Cond.code yX10_toss cX10_toss 2 (some .int) ∈ lw_tbl := mem_tables_1_5 (List.mem_of_getElem? (i := 145) rfl)
theorem q1258 : Cond.methodLink RL 49 yX10_play ∈ lw_tbl := mem_tables_1_5 (List.mem_of_getElem? (i := 169) rfl)
theorem q1259 : Cond.instanceMethod yX10_play ∈ lw_tbl := mem_tables_1_5 (List.mem_of_getElem? (i := 170) rfl)
theorem q1260 : Cond.selects RX10 yX10_play yX10_play ∈ lw_tbl := mem_tables_1_5 (List.mem_of_getElem? (i := 171) rfl)
theorem q1261 : Cond.code yX10_play cX10_play 2 (some .int) ∈ lw_tbl := mem_tables_1_5 (List.mem_of_getElem? (i := 172) rfl)
theorem q1297 : Cond.methodLink RL 52 yX10_bring ∈ lw_tbl := mem_tables_1_5 (List.mem_of_getElem? (i := 208) rfl)
theorem q1298 : Cond.instanceMethod yX10_bring ∈ lw_tbl := mem_tables_1_5 (List.mem_of_getElem? (i := 209) rfl)
theorem q1299 : Cond.selects RX10 yX10_bring yX10_bring ∈ lw_tbl := mem_tables_1_5 (List.mem_of_getElem? (i := 210) rfl)
theorem q1300 : Cond.code yX10_bring cX10_bring 3 (some .int) ∈ lw_tbl := mem_tables_1_5 (List.mem_of_getElem? (i := 211) rfl)
theorem q1305 : Cond.methodLink RL 55 yX10_hold ∈ lw_tbl := mem_tables_1_5 (List.mem_of_getElem? (i := 216) rfl)
theorem q1306 : Cond.instanceMethod yX10_hold ∈ lw_tbl := mem_tables_1_5 (List.mem_of_getElem? (i := 217) rfl)
theorem q1307 : Cond.selects RX10 yX10_hold yX10_hold ∈ lw_tbl := mem_tables_1_5 (List.mem_of_getElem? (i := 218) rfl)
theorem q1308 : Cond.code yX10_hold cX10_hold 3 (some .int) ∈ lw_tbl := mem_tables_1_5 (List.mem_of_getElem? (i := 219) rfl)
theorem q1317 : Cond.methodLink RL 58 yX10_declare ∈ lw_tbl := mem_tables_1_5 (List.mem_of_getElem? (i := 228) rfl)
theorem q1318 : Cond.instanceMethod yX10_declare ∈ lw_tbl := mem_tables_1_5 (List.mem_of_getElem? (i := 229) rfl)
theorem q1319 : Cond.selects RX10 yX10_declare yX10_declare ∈ lw_tbl := mem_tables_1_5 (List.mem_of_getElem? (i := 230) rfl)
theorem q1320 : Cond.code yX10_declare cX10_declare 2 (some .int) ∈ lw_tbl := mem_tables_1_5 (List.mem_of_getElem? (i := 231) rfl)
theorem q1333 : Cond.methodLink RL 61 yX10_follow ∈ lw_tbl := mem_tables_1_6 (List.mem_of_getElem? (i := 4) rfl)
theorem q1334 : Cond.instanceMethod yX10_follow ∈ lw_tbl := mem_tables_1_6 (List.mem_of_getElem? (i := 5) rfl)
theorem q1335 : Cond.selects RX10 yX10_follow yX10_follow ∈ lw_tbl := mem_tables_1_6 (List.mem_of_getElem? (i := 6) rfl)
theorem q1336 : Cond.code yX10_follow cX10_follow 1 (some .int) ∈ lw_tbl := mem_tables_1_6 (List.mem_of_getElem? (i := 7) rfl)
theorem q1341 : Cond.methodLink RL 64 yX10_here ∈ lw_tbl := mem_tables_1_6 (List.mem_of_getElem? (i := 12) rfl)
theorem q1342 : Cond.instanceMethod yX10_here ∈ lw_tbl := mem_tables_1_6 (List.mem_of_getElem? (i := 13) rfl)
theorem q1343 : Cond.selects RX10 yX10_here yX10_here ∈ lw_tbl := mem_tables_1_6 (List.mem_of_getElem? (i := 14) rfl)
theorem q1344 : Cond.code yX10_here cX10_here 2 (some .long) ∈ lw_tbl := mem_tables_1_6 (List.mem_of_getElem? (i := 15) rfl)
theorem q1365 : Cond.methodLink RL 68 yX10_worth ∈ lw_tbl := mem_tables_1_6 (List.mem_of_getElem? (i := 36) rfl)
theorem q1366 : Cond.instanceMethod yX10_worth ∈ lw_tbl := mem_tables_1_6 (List.mem_of_getElem? (i := 37) rfl)
theorem q1367 : Cond.selects RX10 yX10_worth yX10_worth ∈ lw_tbl := mem_tables_1_6 (List.mem_of_getElem? (i := 38) rfl)
theorem q1368 : Cond.code yX10_worth cX10_worth 3 (some .long) ∈ lw_tbl := mem_tables_1_6 (List.mem_of_getElem? (i := 39) rfl)
theorem q1379 : Cond.methodLink RL 72 yX10_evens ∈ lw_tbl := mem_tables_1_6 (List.mem_of_getElem? (i := 50) rfl)
theorem q1380 : Cond.instanceMethod yX10_evens ∈ lw_tbl := mem_tables_1_6 (List.mem_of_getElem? (i := 51) rfl)
theorem q1381 : Cond.selects RX10 yX10_evens yX10_evens ∈ lw_tbl := mem_tables_1_6 (List.mem_of_getElem? (i := 52) rfl)
theorem q1382 : Cond.code yX10_evens cX10_evens 2 (some .long) ∈ lw_tbl := mem_tables_1_6 (List.mem_of_getElem? (i := 53) rfl)
theorem q1389 : Cond.methodLink RL 75 yX10_after ∈ lw_tbl := mem_tables_1_6 (List.mem_of_getElem? (i := 60) rfl)
theorem q1390 : Cond.instanceMethod yX10_after ∈ lw_tbl := mem_tables_1_6 (List.mem_of_getElem? (i := 61) rfl)
theorem q1391 : Cond.selects RX10 yX10_after yX10_after ∈ lw_tbl := mem_tables_1_6 (List.mem_of_getElem? (i := 62) rfl)
theorem q1392 : Cond.code yX10_after cX10_after 3 (some .long) ∈ lw_tbl := mem_tables_1_6 (List.mem_of_getElem? (i := 63) rfl)
theorem q1401 : Cond.methodLink RL 78 yX10_turning ∈ lw_tbl := mem_tables_1_6 (List.mem_of_getElem? (i := 72) rfl)
theorem q1402 : Cond.instanceMethod yX10_turning ∈ lw_tbl := mem_tables_1_6 (List.mem_of_getElem? (i := 73) rfl)
theorem q1403 : Cond.selects RX10 yX10_turning yX10_turning ∈ lw_tbl := mem_tables_1_6 (List.mem_of_getElem? (i := 74) rfl)
theorem q1404 : Cond.code yX10_turning cX10_turning 11 (some .int) ∈ lw_tbl := mem_tables_1_6 (List.mem_of_getElem? (i := 75) rfl)
theorem q1408 : Cond.methodLink RL 82 yX10_wins ∈ lw_tbl := mem_tables_1_6 (List.mem_of_getElem? (i := 79) rfl)
theorem q1409 : Cond.instanceMethod yX10_wins ∈ lw_tbl := mem_tables_1_6 (List.mem_of_getElem? (i := 80) rfl)
theorem q1410 : Cond.selects RX10 yX10_wins yX10_wins ∈ lw_tbl := mem_tables_1_6 (List.mem_of_getElem? (i := 81) rfl)
theorem q1411 : Cond.code yX10_wins cX10_wins 7 (some .long) ∈ lw_tbl := mem_tables_1_6 (List.mem_of_getElem? (i := 82) rfl)
theorem q1427 : Cond.methodLink RL 86 yX10_declares ∈ lw_tbl := mem_tables_1_6 (List.mem_of_getElem? (i := 98) rfl)
theorem q1428 : Cond.instanceMethod yX10_declares ∈ lw_tbl := mem_tables_1_6 (List.mem_of_getElem? (i := 99) rfl)
theorem q1429 : Cond.selects RX10 yX10_declares yX10_declares ∈ lw_tbl := mem_tables_1_6 (List.mem_of_getElem? (i := 100) rfl)
theorem q1430 : Cond.code yX10_declares cX10_declares 6 (some .boolean) ∈ lw_tbl := mem_tables_1_6 (List.mem_of_getElem? (i := 101) rfl)
theorem q1442 : Cond.methodLink RL 90 yX10_when ∈ lw_tbl := mem_tables_1_6 (List.mem_of_getElem? (i := 113) rfl)
theorem q1443 : Cond.instanceMethod yX10_when ∈ lw_tbl := mem_tables_1_6 (List.mem_of_getElem? (i := 114) rfl)
theorem q1444 : Cond.selects RX10 yX10_when yX10_when ∈ lw_tbl := mem_tables_1_6 (List.mem_of_getElem? (i := 115) rfl)
theorem q1445 : Cond.code yX10_when cX10_when 4 (some .int) ∈ lw_tbl := mem_tables_1_6 (List.mem_of_getElem? (i := 116) rfl)
theorem q1449 : Cond.methodLink RL 93 yX10_enforces ∈ lw_tbl := mem_tables_1_6 (List.mem_of_getElem? (i := 120) rfl)
theorem q1450 : Cond.instanceMethod yX10_enforces ∈ lw_tbl := mem_tables_1_6 (List.mem_of_getElem? (i := 121) rfl)
theorem q1451 : Cond.selects RX10 yX10_enforces yX10_enforces ∈ lw_tbl := mem_tables_1_6 (List.mem_of_getElem? (i := 122) rfl)
theorem q1452 : Cond.code yX10_enforces cX10_enforces 3 (some .boolean) ∈ lw_tbl := mem_tables_1_6 (List.mem_of_getElem? (i := 123) rfl)
theorem q1457 : Cond.methodLink RL 97 yX10_chased ∈ lw_tbl := mem_tables_1_6 (List.mem_of_getElem? (i := 128) rfl)
theorem q1458 : Cond.instanceMethod yX10_chased ∈ lw_tbl := mem_tables_1_6 (List.mem_of_getElem? (i := 129) rfl)
theorem q1459 : Cond.selects RX10 yX10_chased yX10_chased ∈ lw_tbl := mem_tables_1_6 (List.mem_of_getElem? (i := 130) rfl)
theorem q1460 : Cond.code yX10_chased cX10_chased 4 (some .int) ∈ lw_tbl := mem_tables_1_6 (List.mem_of_getElem? (i := 131) rfl)
theorem q1464 : Cond.methodLink RL 100 yX10_holds ∈ lw_tbl := mem_tables_1_6 (List.mem_of_getElem? (i := 135) rfl)
theorem q1465 : Cond.instanceMethod yX10_holds ∈ lw_tbl := mem_tables_1_6 (List.mem_of_getElem? (i := 136) rfl)
theorem q1466 : Cond.selects RX10 yX10_holds yX10_holds ∈ lw_tbl := mem_tables_1_6 (List.mem_of_getElem? (i := 137) rfl)
theorem q1467 : Cond.code yX10_holds cX10_holds 5 (some .boolean) ∈ lw_tbl := mem_tables_1_6 (List.mem_of_getElem? (i := 138) rfl)
theorem q1471 : Cond.methodLink RL 104 yX10_turnover ∈ lw_tbl := mem_tables_1_6 (List.mem_of_getElem? (i := 142) rfl)
theorem q1472 : Cond.instanceMethod yX10_turnover ∈ lw_tbl := mem_tables_1_6 (List.mem_of_getElem? (i := 143) rfl)
theorem q1473 : Cond.selects RX10 yX10_turnover yX10_turnover ∈ lw_tbl := mem_tables_1_6 (List.mem_of_getElem? (i := 144) rfl)
theorem q1474 : Cond.code yX10_turnover cX10_turnover 4 (some .int) ∈ lw_tbl := mem_tables_1_6 (List.mem_of_getElem? (i := 145) rfl)
theorem q1478 : Cond.methodLink RL 107 yX10_line ∈ lw_tbl := mem_tables_1_6 (List.mem_of_getElem? (i := 149) rfl)
theorem q1479 : Cond.instanceMethod yX10_line ∈ lw_tbl := mem_tables_1_6 (List.mem_of_getElem? (i := 150) rfl)
theorem q1480 : Cond.selects RX10 yX10_line yX10_line ∈ lw_tbl := mem_tables_1_6 (List.mem_of_getElem? (i := 151) rfl)
theorem q1481 : Cond.code yX10_line cX10_line 8 (some .int) ∈ lw_tbl := mem_tables_1_6 (List.mem_of_getElem? (i := 152) rfl)
theorem q1485 : Cond.methodLink RL 111 yX10_cost ∈ lw_tbl := mem_tables_1_6 (List.mem_of_getElem? (i := 156) rfl)
theorem q1486 : Cond.instanceMethod yX10_cost ∈ lw_tbl := mem_tables_1_6 (List.mem_of_getElem? (i := 157) rfl)
theorem q1487 : Cond.selects RX10 yX10_cost yX10_cost ∈ lw_tbl := mem_tables_1_6 (List.mem_of_getElem? (i := 158) rfl)
theorem q1488 : Cond.code yX10_cost cX10_cost 15 (some .long) ∈ lw_tbl := mem_tables_1_6 (List.mem_of_getElem? (i := 159) rfl)
theorem q1497 : Cond.methodLink RL 114 yX10_swing ∈ lw_tbl := mem_tables_1_6 (List.mem_of_getElem? (i := 168) rfl)
theorem q1498 : Cond.instanceMethod yX10_swing ∈ lw_tbl := mem_tables_1_6 (List.mem_of_getElem? (i := 169) rfl)
theorem q1499 : Cond.selects RX10 yX10_swing yX10_swing ∈ lw_tbl := mem_tables_1_6 (List.mem_of_getElem? (i := 170) rfl)
theorem q1500 : Cond.code yX10_swing cX10_swing 3 (some .int) ∈ lw_tbl := mem_tables_1_6 (List.mem_of_getElem? (i := 171) rfl)
theorem q1509 : Cond.methodLink RL 117 yX10_book ∈ lw_tbl := mem_tables_1_6 (List.mem_of_getElem? (i := 180) rfl)
theorem q1510 : Cond.instanceMethod yX10_book ∈ lw_tbl := mem_tables_1_6 (List.mem_of_getElem? (i := 181) rfl)
theorem q1511 : Cond.selects RX10 yX10_book yX10_book ∈ lw_tbl := mem_tables_1_6 (List.mem_of_getElem? (i := 182) rfl)
theorem q1512 : Cond.code yX10_book cX10_book 2 (some .int) ∈ lw_tbl := mem_tables_1_6 (List.mem_of_getElem? (i := 183) rfl)
theorem q1516 : Cond.methodLink RL 120 yX10_share ∈ lw_tbl := mem_tables_1_6 (List.mem_of_getElem? (i := 187) rfl)
theorem q1517 : Cond.instanceMethod yX10_share ∈ lw_tbl := mem_tables_1_6 (List.mem_of_getElem? (i := 188) rfl)
theorem q1518 : Cond.selects RX10 yX10_share yX10_share ∈ lw_tbl := mem_tables_1_6 (List.mem_of_getElem? (i := 189) rfl)
theorem q1519 : Cond.code yX10_share cX10_share 4 (some .int) ∈ lw_tbl := mem_tables_1_6 (List.mem_of_getElem? (i := 190) rfl)
theorem q1523 : Cond.methodLink RL 123 yX10_signs ∈ lw_tbl := mem_tables_1_6 (List.mem_of_getElem? (i := 194) rfl)
theorem q1524 : Cond.instanceMethod yX10_signs ∈ lw_tbl := mem_tables_1_6 (List.mem_of_getElem? (i := 195) rfl)
theorem q1525 : Cond.selects RX10 yX10_signs yX10_signs ∈ lw_tbl := mem_tables_1_6 (List.mem_of_getElem? (i := 196) rfl)
theorem q1526 : Cond.code yX10_signs cX10_signs 5 (some .int) ∈ lw_tbl := mem_tables_1_6 (List.mem_of_getElem? (i := 197) rfl)
theorem q1550 : Cond.methodLink RL 126 yX10_best ∈ lw_tbl := mem_tables_1_6 (List.mem_of_getElem? (i := 221) rfl)
theorem q1551 : Cond.instanceMethod yX10_best ∈ lw_tbl := mem_tables_1_6 (List.mem_of_getElem? (i := 222) rfl)
theorem q1552 : Cond.selects RX10 yX10_best yX10_best ∈ lw_tbl := mem_tables_1_6 (List.mem_of_getElem? (i := 223) rfl)
theorem q1553 : Cond.code yX10_best cX10_best 10 (some .int) ∈ lw_tbl := mem_tables_1_6 (List.mem_of_getElem? (i := 224) rfl)
theorem q1563 : Cond.methodLink RL 130 yX10_blind ∈ lw_tbl := mem_tables_1_6 (List.mem_of_getElem? (i := 234) rfl)
theorem q1564 : Cond.instanceMethod yX10_blind ∈ lw_tbl := mem_tables_1_6 (List.mem_of_getElem? (i := 235) rfl)
theorem q1565 : Cond.selects RX10 yX10_blind yX10_blind ∈ lw_tbl := mem_tables_1_6 (List.mem_of_getElem? (i := 236) rfl)
theorem q1566 : Cond.code yX10_blind cX10_blind 2 (some .long) ∈ lw_tbl := mem_tables_1_6 (List.mem_of_getElem? (i := 237) rfl)
theorem q1570 : Cond.methodLink RL 133 yX10_target ∈ lw_tbl := mem_tables_1_7 (List.mem_of_getElem? (i := 1) rfl)
theorem q1571 : Cond.instanceMethod yX10_target ∈ lw_tbl := mem_tables_1_7 (List.mem_of_getElem? (i := 2) rfl)
theorem q1572 : Cond.selects RX10 yX10_target yX10_target ∈ lw_tbl := mem_tables_1_7 (List.mem_of_getElem? (i := 3) rfl)
theorem q1573 : Cond.code yX10_target cX10_target 4 (some .int) ∈ lw_tbl := mem_tables_1_7 (List.mem_of_getElem? (i := 4) rfl)
theorem q1577 : Cond.methodLink RL 136 yX10_streak ∈ lw_tbl := mem_tables_1_7 (List.mem_of_getElem? (i := 8) rfl)
theorem q1578 : Cond.instanceMethod yX10_streak ∈ lw_tbl := mem_tables_1_7 (List.mem_of_getElem? (i := 9) rfl)
theorem q1579 : Cond.selects RX10 yX10_streak yX10_streak ∈ lw_tbl := mem_tables_1_7 (List.mem_of_getElem? (i := 10) rfl)
theorem q1580 : Cond.code yX10_streak cX10_streak 2 (some .int) ∈ lw_tbl := mem_tables_1_7 (List.mem_of_getElem? (i := 11) rfl)
theorem q1589 : Cond.methodLink RL 139 yX10_table ∈ lw_tbl := mem_tables_1_7 (List.mem_of_getElem? (i := 20) rfl)
theorem q1590 : Cond.instanceMethod yX10_table ∈ lw_tbl := mem_tables_1_7 (List.mem_of_getElem? (i := 21) rfl)
theorem q1591 : Cond.selects RX10 yX10_table yX10_table ∈ lw_tbl := mem_tables_1_7 (List.mem_of_getElem? (i := 22) rfl)
theorem q1592 : Cond.code yX10_table cX10_table 8 (some .int) ∈ lw_tbl := mem_tables_1_7 (List.mem_of_getElem? (i := 23) rfl)
theorem q1598 : Cond.methodLink RL 143 yX10_form ∈ lw_tbl := mem_tables_1_7 (List.mem_of_getElem? (i := 29) rfl)
theorem q1599 : Cond.instanceMethod yX10_form ∈ lw_tbl := mem_tables_1_7 (List.mem_of_getElem? (i := 30) rfl)
theorem q1600 : Cond.selects RX10 yX10_form yX10_form ∈ lw_tbl := mem_tables_1_7 (List.mem_of_getElem? (i := 31) rfl)
theorem q1601 : Cond.code yX10_form cX10_form 5 (some .int) ∈ lw_tbl := mem_tables_1_7 (List.mem_of_getElem? (i := 32) rfl)
theorem q1610 : Cond.methodLink RL 146 yX10_hardest ∈ lw_tbl := mem_tables_1_7 (List.mem_of_getElem? (i := 41) rfl)
theorem q1611 : Cond.instanceMethod yX10_hardest ∈ lw_tbl := mem_tables_1_7 (List.mem_of_getElem? (i := 42) rfl)
theorem q1612 : Cond.selects RX10 yX10_hardest yX10_hardest ∈ lw_tbl := mem_tables_1_7 (List.mem_of_getElem? (i := 43) rfl)
theorem q1613 : Cond.code yX10_hardest cX10_hardest 7 (some .int) ∈ lw_tbl := mem_tables_1_7 (List.mem_of_getElem? (i := 44) rfl)
theorem q1617 : Cond.methodLink RL 149 yX10_log ∈ lw_tbl := mem_tables_1_7 (List.mem_of_getElem? (i := 48) rfl)
theorem q1618 : Cond.instanceMethod yX10_log ∈ lw_tbl := mem_tables_1_7 (List.mem_of_getElem? (i := 49) rfl)
theorem q1619 : Cond.selects RX10 yX10_log yX10_log ∈ lw_tbl := mem_tables_1_7 (List.mem_of_getElem? (i := 50) rfl)
theorem q1620 : Cond.code yX10_log cX10_log 3 (some .int) ∈ lw_tbl := mem_tables_1_7 (List.mem_of_getElem? (i := 51) rfl)
section LNK2
variable {G : GG} {mr : MR} {n : Nat} {mem mem' : Mem} {p : Program} {l : Launch} {e : Env} {R : Room} {d : Nat} {s : State} {mid : MethodId} {args : Array Value} {below : List Frame} {meth : Method} {c : Code} {H : Heap} {locs : List Loc} {cells slots : Nat} {Q : State → Prop} {cc : ByteArray} {nL : Nat} {own : String} {pc : Nat} {ls : Array Slot} {rest : List Value}
theorem wL_7 : WV RL 7 RX10 yX10_ground cX10_ground 1 (some .int) 0 := ⟨⟨(gd q779 rfl), (gd q130 rfl), (gd q782 rfl), by decide, by decide, by decide +kernel⟩, (gd q780 rfl), (gd q781 rfl)⟩
theorem wL_17 : WV RL 17 RX10 yX10_law cX10_law 1 (some .int) 0 := ⟨⟨(gd q1107 rfl), (gd q130 rfl), (gd q1110 rfl), by decide, by decide, by decide +kernel⟩, (gd q1108 rfl), (gd q1109 rfl)⟩
theorem wL_20 : WV RL 20 RX10 yX10_side cX10_side 3 (some .int) 2 := ⟨⟨(gd q1123 rfl), (gd q130 rfl), (gd q1126 rfl), by decide, by decide, by decide +kernel⟩, (gd q1124 rfl), (gd q1125 rfl)⟩
theorem wL_26 : WV RL 26 RX10 yX10_slot cX10_slot 4 (some .int) 3 := ⟨⟨(gd q1152 rfl), (gd q130 rfl), (gd q1155 rfl), by decide, by decide, by decide +kernel⟩, (gd q1153 rfl), (gd q1154 rfl)⟩
theorem wL_30 : WV RL 30 RX10 yX10_session cX10_session 3 (some .int) 2 := ⟨⟨(gd q1162 rfl), (gd q130 rfl), (gd q1165 rfl), by decide, by decide, by decide +kernel⟩, (gd q1163 rfl), (gd q1164 rfl)⟩
theorem wL_36 : WV RL 36 RX10 yX10_level cX10_level 4 (some .int) 3 := ⟨⟨(gd q1186 rfl), (gd q130 rfl), (gd q1189 rfl), by decide, by decide, by decide +kernel⟩, (gd q1187 rfl), (gd q1188 rfl)⟩
theorem wL_40 : WV RL 40 RX10 yX10_match cX10_match 2 (some .int) 1 := ⟨⟨(gd q1194 rfl), (gd q130 rfl), (gd q1197 rfl), by decide, by decide, by decide +kernel⟩, (gd q1195 rfl), (gd q1196 rfl)⟩
theorem wL_44 : WV RL 44 RX10 yX10_toss cX10_toss 2 (some .int) 1 := ⟨⟨(gd q1231 rfl), (gd q130 rfl), (gd q1234 rfl), by decide, by decide, by decide +kernel⟩, (gd q1232 rfl), (gd q1233 rfl)⟩
theorem wL_49 : WV RL 49 RX10 yX10_play cX10_play 2 (some .int) 0 := ⟨⟨(gd q1258 rfl), (gd q130 rfl), (gd q1261 rfl), by decide, by decide, by decide +kernel⟩, (gd q1259 rfl), (gd q1260 rfl)⟩
theorem wL_52 : WV RL 52 RX10 yX10_bring cX10_bring 3 (some .int) 1 := ⟨⟨(gd q1297 rfl), (gd q130 rfl), (gd q1300 rfl), by decide, by decide, by decide +kernel⟩, (gd q1298 rfl), (gd q1299 rfl)⟩
theorem wL_55 : WV RL 55 RX10 yX10_hold cX10_hold 3 (some .int) 1 := ⟨⟨(gd q1305 rfl), (gd q130 rfl), (gd q1308 rfl), by decide, by decide, by decide +kernel⟩, (gd q1306 rfl), (gd q1307 rfl)⟩
theorem wL_58 : WV RL 58 RX10 yX10_declare cX10_declare 2 (some .int) 0 := ⟨⟨(gd q1317 rfl), (gd q130 rfl), (gd q1320 rfl), by decide, by decide, by decide +kernel⟩, (gd q1318 rfl), (gd q1319 rfl)⟩
theorem wL_61 : WV RL 61 RX10 yX10_follow cX10_follow 1 (some .int) 0 := ⟨⟨(gd q1333 rfl), (gd q130 rfl), (gd q1336 rfl), by decide, by decide, by decide +kernel⟩, (gd q1334 rfl), (gd q1335 rfl)⟩
theorem wL_64 : WV RL 64 RX10 yX10_here cX10_here 2 (some .long) 1 := ⟨⟨(gd q1341 rfl), (gd q130 rfl), (gd q1344 rfl), by decide, by decide, by decide +kernel⟩, (gd q1342 rfl), (gd q1343 rfl)⟩
theorem wL_68 : WV RL 68 RX10 yX10_worth cX10_worth 3 (some .long) 2 := ⟨⟨(gd q1365 rfl), (gd q130 rfl), (gd q1368 rfl), by decide, by decide, by decide +kernel⟩, (gd q1366 rfl), (gd q1367 rfl)⟩
theorem wL_72 : WV RL 72 RX10 yX10_evens cX10_evens 2 (some .long) 1 := ⟨⟨(gd q1379 rfl), (gd q130 rfl), (gd q1382 rfl), by decide, by decide, by decide +kernel⟩, (gd q1380 rfl), (gd q1381 rfl)⟩
theorem wL_75 : WV RL 75 RX10 yX10_after cX10_after 3 (some .long) 2 := ⟨⟨(gd q1389 rfl), (gd q130 rfl), (gd q1392 rfl), by decide, by decide, by decide +kernel⟩, (gd q1390 rfl), (gd q1391 rfl)⟩
theorem wL_78 : WV RL 78 RX10 yX10_turning cX10_turning 11 (some .int) 1 := ⟨⟨(gd q1401 rfl), (gd q130 rfl), (gd q1404 rfl), by decide, by decide, by decide +kernel⟩, (gd q1402 rfl), (gd q1403 rfl)⟩
theorem wL_82 : WV RL 82 RX10 yX10_wins cX10_wins 7 (some .long) 6 := ⟨⟨(gd q1408 rfl), (gd q130 rfl), (gd q1411 rfl), by decide, by decide, by decide +kernel⟩, (gd q1409 rfl), (gd q1410 rfl)⟩
theorem wL_86 : WV RL 86 RX10 yX10_declares cX10_declares 6 (some .boolean) 5 := ⟨⟨(gd q1427 rfl), (gd q130 rfl), (gd q1430 rfl), by decide, by decide, by decide +kernel⟩, (gd q1428 rfl), (gd q1429 rfl)⟩
theorem wL_90 : WV RL 90 RX10 yX10_when cX10_when 4 (some .int) 2 := ⟨⟨(gd q1442 rfl), (gd q130 rfl), (gd q1445 rfl), by decide, by decide, by decide +kernel⟩, (gd q1443 rfl), (gd q1444 rfl)⟩
theorem wL_93 : WV RL 93 RX10 yX10_enforces cX10_enforces 3 (some .boolean) 2 := ⟨⟨(gd q1449 rfl), (gd q130 rfl), (gd q1452 rfl), by decide, by decide, by decide +kernel⟩, (gd q1450 rfl), (gd q1451 rfl)⟩
theorem wL_97 : WV RL 97 RX10 yX10_chased cX10_chased 4 (some .int) 1 := ⟨⟨(gd q1457 rfl), (gd q130 rfl), (gd q1460 rfl), by decide, by decide, by decide +kernel⟩, (gd q1458 rfl), (gd q1459 rfl)⟩
theorem wL_100 : WV RL 100 RX10 yX10_holds cX10_holds 5 (some .boolean) 4 := ⟨⟨(gd q1464 rfl), (gd q130 rfl), (gd q1467 rfl), by decide, by decide, by decide +kernel⟩, (gd q1465 rfl), (gd q1466 rfl)⟩
theorem wL_104 : WV RL 104 RX10 yX10_turnover cX10_turnover 4 (some .int) 2 := ⟨⟨(gd q1471 rfl), (gd q130 rfl), (gd q1474 rfl), by decide, by decide, by decide +kernel⟩, (gd q1472 rfl), (gd q1473 rfl)⟩
theorem wL_107 : WV RL 107 RX10 yX10_line cX10_line 8 (some .int) 5 := ⟨⟨(gd q1478 rfl), (gd q130 rfl), (gd q1481 rfl), by decide, by decide, by decide +kernel⟩, (gd q1479 rfl), (gd q1480 rfl)⟩
theorem wL_111 : WV RL 111 RX10 yX10_cost cX10_cost 15 (some .long) 1 := ⟨⟨(gd q1485 rfl), (gd q130 rfl), (gd q1488 rfl), by decide, by decide, by decide +kernel⟩, (gd q1486 rfl), (gd q1487 rfl)⟩
theorem wL_114 : WV RL 114 RX10 yX10_swing cX10_swing 3 (some .int) 0 := ⟨⟨(gd q1497 rfl), (gd q130 rfl), (gd q1500 rfl), by decide, by decide, by decide +kernel⟩, (gd q1498 rfl), (gd q1499 rfl)⟩
theorem wL_117 : WV RL 117 RX10 yX10_book cX10_book 2 (some .int) 1 := ⟨⟨(gd q1509 rfl), (gd q130 rfl), (gd q1512 rfl), by decide, by decide, by decide +kernel⟩, (gd q1510 rfl), (gd q1511 rfl)⟩
theorem wL_120 : WV RL 120 RX10 yX10_share cX10_share 4 (some .int) 2 := ⟨⟨(gd q1516 rfl), (gd q130 rfl), (gd q1519 rfl), by decide, by decide, by decide +kernel⟩, (gd q1517 rfl), (gd q1518 rfl)⟩
theorem wL_123 : WV RL 123 RX10 yX10_signs cX10_signs 5 (some .int) 3 := ⟨⟨(gd q1523 rfl), (gd q130 rfl), (gd q1526 rfl), by decide, by decide, by decide +kernel⟩, (gd q1524 rfl), (gd q1525 rfl)⟩
theorem wL_126 : WV RL 126 RX10 yX10_best cX10_best 10 (some .int) 2 := ⟨⟨(gd q1550 rfl), (gd q130 rfl), (gd q1553 rfl), by decide, by decide, by decide +kernel⟩, (gd q1551 rfl), (gd q1552 rfl)⟩
theorem wL_130 : WV RL 130 RX10 yX10_blind cX10_blind 2 (some .long) 1 := ⟨⟨(gd q1563 rfl), (gd q130 rfl), (gd q1566 rfl), by decide, by decide, by decide +kernel⟩, (gd q1564 rfl), (gd q1565 rfl)⟩
theorem wL_133 : WV RL 133 RX10 yX10_target cX10_target 4 (some .int) 1 := ⟨⟨(gd q1570 rfl), (gd q130 rfl), (gd q1573 rfl), by decide, by decide, by decide +kernel⟩, (gd q1571 rfl), (gd q1572 rfl)⟩
theorem wL_136 : WV RL 136 RX10 yX10_streak cX10_streak 2 (some .int) 1 := ⟨⟨(gd q1577 rfl), (gd q130 rfl), (gd q1580 rfl), by decide, by decide, by decide +kernel⟩, (gd q1578 rfl), (gd q1579 rfl)⟩
theorem wL_139 : WV RL 139 RX10 yX10_table cX10_table 8 (some .int) 4 := ⟨⟨(gd q1589 rfl), (gd q130 rfl), (gd q1592 rfl), by decide, by decide, by decide +kernel⟩, (gd q1590 rfl), (gd q1591 rfl)⟩
theorem wL_143 : WV RL 143 RX10 yX10_form cX10_form 5 (some .int) 2 := ⟨⟨(gd q1598 rfl), (gd q130 rfl), (gd q1601 rfl), by decide, by decide, by decide +kernel⟩, (gd q1599 rfl), (gd q1600 rfl)⟩
theorem wL_146 : WV RL 146 RX10 yX10_hardest cX10_hardest 7 (some .int) 2 := ⟨⟨(gd q1610 rfl), (gd q130 rfl), (gd q1613 rfl), by decide, by decide, by decide +kernel⟩, (gd q1611 rfl), (gd q1612 rfl)⟩
theorem wL_149 : WV RL 149 RX10 yX10_log cX10_log 3 (some .int) 2 := ⟨⟨(gd q1617 rfl), (gd q130 rfl), (gd q1620 rfl), by decide, by decide, by decide +kernel⟩, (gd q1618 rfl), (gd q1619 rfl)⟩
end LNK2
def TL_ground : List (Nat × Instr × Nat) := [(0, .aload_n 1, 1), (1, .iconst 0, 1), (2, .aload_n 0, 1), (3, .invokevirtual 7, 3), (6, .i2l, 1), (7, .lastore, 1), (8, .goto 9, 3), (11, .astore_n 2, 1), (12, .iconst 1, 1), (13, .ireturn, 1), (14, .astore_n 2, 1), (15, .iconst 2, 1), (16, .ireturn, 1), (17, .iconst 0, 1), (18, .ireturn, 1)]
theorem DL_ground : TL_ground.all (fun q => decide (decode cL_ground q.1 = .ok (q.2.1, q.2.2))) = true := by decide +kernel
def TL_law : List (Nat × Instr × Nat) := [(0, .aload_n 1, 1), (1, .iconst 0, 1), (2, .aload_n 0, 1), (3, .invokevirtual 17, 3), (6, .i2l, 1), (7, .lastore, 1), (8, .goto 6, 3), (11, .astore_n 2, 1), (12, .iconst 1, 1), (13, .ireturn, 1), (14, .iconst 0, 1), (15, .ireturn, 1)]
theorem DL_law : TL_law.all (fun q => decide (decode cL_law q.1 = .ok (q.2.1, q.2.2))) = true := by decide +kernel
def TL_side : List (Nat × Instr × Nat) := [(0, .aload_n 3, 1), (1, .iconst 0, 1), (2, .aload_n 0, 1), (3, .iload_n 1, 1), (4, .iload_n 2, 1), (5, .invokevirtual 20, 3), (8, .i2l, 1), (9, .lastore, 1), (10, .goto 7, 3), (13, .astore 4, 2), (15, .iconst 1, 1), (16, .ireturn, 1), (17, .iconst 0, 1), (18, .ireturn, 1)]
theorem DL_side : TL_side.all (fun q => decide (decode cL_side q.1 = .ok (q.2.1, q.2.2))) = true := by decide +kernel
def TL_slot : List (Nat × Instr × Nat) := [(0, .aload 4, 2), (2, .iconst 0, 1), (3, .aload_n 0, 1), (4, .iload_n 1, 1), (5, .iload_n 2, 1), (6, .iload_n 3, 1), (7, .invokevirtual 26, 3), (10, .i2l, 1), (11, .lastore, 1), (12, .goto 7, 3), (15, .astore 5, 2), (17, .iconst 1, 1), (18, .ireturn, 1), (19, .iconst 0, 1), (20, .ireturn, 1)]
theorem DL_slot : TL_slot.all (fun q => decide (decode cL_slot q.1 = .ok (q.2.1, q.2.2))) = true := by decide +kernel
def TL_session : List (Nat × Instr × Nat) := [(0, .aload_n 3, 1), (1, .iconst 0, 1), (2, .aload_n 0, 1), (3, .iload_n 1, 1), (4, .iload_n 2, 1), (5, .invokevirtual 30, 3), (8, .i2l, 1), (9, .lastore, 1), (10, .goto 11, 3), (13, .astore 4, 2), (15, .iconst 1, 1), (16, .ireturn, 1), (17, .astore 4, 2), (19, .iconst 2, 1), (20, .ireturn, 1), (21, .iconst 0, 1), (22, .ireturn, 1)]
theorem DL_session : TL_session.all (fun q => decide (decode cL_session q.1 = .ok (q.2.1, q.2.2))) = true := by decide +kernel
def TL_level : List (Nat × Instr × Nat) := [(0, .aload 4, 2), (2, .iconst 0, 1), (3, .aload_n 0, 1), (4, .iload_n 1, 1), (5, .iload_n 2, 1), (6, .iload_n 3, 1), (7, .invokevirtual 36, 3), (10, .i2l, 1), (11, .lastore, 1), (12, .goto 7, 3), (15, .astore 5, 2), (17, .iconst 1, 1), (18, .ireturn, 1), (19, .iconst 0, 1), (20, .ireturn, 1)]
theorem DL_level : TL_level.all (fun q => decide (decode cL_level q.1 = .ok (q.2.1, q.2.2))) = true := by decide +kernel
def TL_match : List (Nat × Instr × Nat) := [(0, .aload_n 2, 1), (1, .iconst 0, 1), (2, .aload_n 0, 1), (3, .iload_n 1, 1), (4, .invokevirtual 40, 3), (7, .i2l, 1), (8, .lastore, 1), (9, .goto 6, 3), (12, .astore_n 3, 1), (13, .iconst 1, 1), (14, .ireturn, 1), (15, .iconst 0, 1), (16, .ireturn, 1)]
theorem DL_match : TL_match.all (fun q => decide (decode cL_match q.1 = .ok (q.2.1, q.2.2))) = true := by decide +kernel
def TL_toss : List (Nat × Instr × Nat) := [(0, .aload_n 2, 1), (1, .iconst 0, 1), (2, .aload_n 0, 1), (3, .iload_n 1, 1), (4, .invokevirtual 44, 3), (7, .i2l, 1), (8, .lastore, 1), (9, .goto 9, 3), (12, .astore_n 3, 1), (13, .iconst 1, 1), (14, .ireturn, 1), (15, .astore_n 3, 1), (16, .iconst 2, 1), (17, .ireturn, 1), (18, .iconst 0, 1), (19, .ireturn, 1)]
theorem DL_toss : TL_toss.all (fun q => decide (decode cL_toss q.1 = .ok (q.2.1, q.2.2))) = true := by decide +kernel
def TL_play : List (Nat × Instr × Nat) := [(0, .aload_n 1, 1), (1, .iconst 0, 1), (2, .aload_n 0, 1), (3, .invokevirtual 49, 3), (6, .i2l, 1), (7, .lastore, 1), (8, .goto 6, 3), (11, .astore_n 2, 1), (12, .iconst 1, 1), (13, .ireturn, 1), (14, .iconst 0, 1), (15, .ireturn, 1)]
theorem DL_play : TL_play.all (fun q => decide (decode cL_play q.1 = .ok (q.2.1, q.2.2))) = true := by decide +kernel
def TL_bring : List (Nat × Instr × Nat) := [(0, .aload_n 2, 1), (1, .iconst 0, 1), (2, .aload_n 0, 1), (3, .iload_n 1, 1), (4, .invokevirtual 52, 3), (7, .i2l, 1), (8, .lastore, 1), (9, .goto 9, 3), (12, .astore_n 3, 1), (13, .iconst 1, 1), (14, .ireturn, 1), (15, .astore_n 3, 1), (16, .iconst 2, 1), (17, .ireturn, 1), (18, .iconst 0, 1), (19, .ireturn, 1)]
theorem DL_bring : TL_bring.all (fun q => decide (decode cL_bring q.1 = .ok (q.2.1, q.2.2))) = true := by decide +kernel
def TL_hold : List (Nat × Instr × Nat) := [(0, .aload_n 2, 1), (1, .iconst 0, 1), (2, .aload_n 0, 1), (3, .iload_n 1, 1), (4, .invokevirtual 55, 3), (7, .i2l, 1), (8, .lastore, 1), (9, .goto 9, 3), (12, .astore_n 3, 1), (13, .iconst 1, 1), (14, .ireturn, 1), (15, .astore_n 3, 1), (16, .iconst 2, 1), (17, .ireturn, 1), (18, .iconst 0, 1), (19, .ireturn, 1)]
theorem DL_hold : TL_hold.all (fun q => decide (decode cL_hold q.1 = .ok (q.2.1, q.2.2))) = true := by decide +kernel
def TL_declare : List (Nat × Instr × Nat) := [(0, .aload_n 1, 1), (1, .iconst 0, 1), (2, .aload_n 0, 1), (3, .invokevirtual 58, 3), (6, .i2l, 1), (7, .lastore, 1), (8, .goto 6, 3), (11, .astore_n 2, 1), (12, .iconst 1, 1), (13, .ireturn, 1), (14, .iconst 0, 1), (15, .ireturn, 1)]
theorem DL_declare : TL_declare.all (fun q => decide (decode cL_declare q.1 = .ok (q.2.1, q.2.2))) = true := by decide +kernel
def TL_follow : List (Nat × Instr × Nat) := [(0, .aload_n 1, 1), (1, .iconst 0, 1), (2, .aload_n 0, 1), (3, .invokevirtual 61, 3), (6, .i2l, 1), (7, .lastore, 1), (8, .goto 6, 3), (11, .astore_n 2, 1), (12, .iconst 1, 1), (13, .ireturn, 1), (14, .iconst 0, 1), (15, .ireturn, 1)]
theorem DL_follow : TL_follow.all (fun q => decide (decode cL_follow q.1 = .ok (q.2.1, q.2.2))) = true := by decide +kernel
def TL_here : List (Nat × Instr × Nat) := [(0, .aload_n 2, 1), (1, .iconst 0, 1), (2, .aload_n 0, 1), (3, .iload_n 1, 1), (4, .invokevirtual 64, 3), (7, .lastore, 1), (8, .goto 9, 3), (11, .astore_n 3, 1), (12, .iconst 1, 1), (13, .ireturn, 1), (14, .astore_n 3, 1), (15, .iconst 2, 1), (16, .ireturn, 1), (17, .iconst 0, 1), (18, .ireturn, 1)]
theorem DL_here : TL_here.all (fun q => decide (decode cL_here q.1 = .ok (q.2.1, q.2.2))) = true := by decide +kernel
def TL_worth : List (Nat × Instr × Nat) := [(0, .aload_n 3, 1), (1, .iconst 0, 1), (2, .aload_n 0, 1), (3, .iload_n 1, 1), (4, .iload_n 2, 1), (5, .invokevirtual 68, 3), (8, .lastore, 1), (9, .goto 11, 3), (12, .astore 4, 2), (14, .iconst 1, 1), (15, .ireturn, 1), (16, .astore 4, 2), (18, .iconst 2, 1), (19, .ireturn, 1), (20, .iconst 0, 1), (21, .ireturn, 1)]
theorem DL_worth : TL_worth.all (fun q => decide (decode cL_worth q.1 = .ok (q.2.1, q.2.2))) = true := by decide +kernel
def TL_evens : List (Nat × Instr × Nat) := [(0, .aload_n 2, 1), (1, .iconst 0, 1), (2, .aload_n 0, 1), (3, .iload_n 1, 1), (4, .invokevirtual 72, 3), (7, .lastore, 1), (8, .goto 6, 3), (11, .astore_n 3, 1), (12, .iconst 1, 1), (13, .ireturn, 1), (14, .iconst 0, 1), (15, .ireturn, 1)]
theorem DL_evens : TL_evens.all (fun q => decide (decode cL_evens q.1 = .ok (q.2.1, q.2.2))) = true := by decide +kernel
def TL_after : List (Nat × Instr × Nat) := [(0, .aload_n 3, 1), (1, .iconst 0, 1), (2, .aload_n 0, 1), (3, .iload_n 1, 1), (4, .iload_n 2, 1), (5, .invokevirtual 75, 3), (8, .lastore, 1), (9, .goto 15, 3), (12, .astore 4, 2), (14, .iconst 1, 1), (15, .ireturn, 1), (16, .astore 4, 2), (18, .iconst 2, 1), (19, .ireturn, 1), (20, .astore 4, 2), (22, .iconst 3, 1), (23, .ireturn, 1), (24, .iconst 0, 1), (25, .ireturn, 1)]
theorem DL_after : TL_after.all (fun q => decide (decode cL_after q.1 = .ok (q.2.1, q.2.2))) = true := by decide +kernel
def TL_turning : List (Nat × Instr × Nat) := [(0, .aload_n 2, 1), (1, .iconst 0, 1), (2, .aload_n 0, 1), (3, .iload_n 1, 1), (4, .invokevirtual 78, 3), (7, .i2l, 1), (8, .lastore, 1), (9, .goto 6, 3), (12, .astore_n 3, 1), (13, .iconst 1, 1), (14, .ireturn, 1), (15, .iconst 0, 1), (16, .ireturn, 1)]
theorem DL_turning : TL_turning.all (fun q => decide (decode cL_turning q.1 = .ok (q.2.1, q.2.2))) = true := by decide +kernel
def TL_wins : List (Nat × Instr × Nat) := [(0, .aload 7, 2), (2, .iconst 0, 1), (3, .aload_n 0, 1), (4, .iload_n 1, 1), (5, .iload_n 2, 1), (6, .iload_n 3, 1), (7, .iload 4, 2), (9, .iload 5, 2), (11, .iload 6, 2), (13, .invokevirtual 82, 3), (16, .lastore, 1), (17, .goto 15, 3), (20, .astore 8, 2), (22, .iconst 1, 1), (23, .ireturn, 1), (24, .astore 8, 2), (26, .iconst 2, 1), (27, .ireturn, 1), (28, .astore 8, 2), (30, .iconst 3, 1), (31, .ireturn, 1), (32, .iconst 0, 1), (33, .ireturn, 1)]
theorem DL_wins : TL_wins.all (fun q => decide (decode cL_wins q.1 = .ok (q.2.1, q.2.2))) = true := by decide +kernel
def TL_declares : List (Nat × Instr × Nat) := [(0, .aload 6, 2), (2, .iconst 0, 1), (3, .aload_n 0, 1), (4, .iload_n 1, 1), (5, .iload_n 2, 1), (6, .iload_n 3, 1), (7, .iload 4, 2), (9, .iload 5, 2), (11, .invokevirtual 86, 3), (14, .ifCond .eq 7, 3), (17, .lconst 1, 1), (18, .goto 4, 3), (21, .lconst 0, 1), (22, .lastore, 1), (23, .goto 11, 3), (26, .astore 7, 2), (28, .iconst 1, 1), (29, .ireturn, 1), (30, .astore 7, 2), (32, .iconst 2, 1), (33, .ireturn, 1), (34, .iconst 0, 1), (35, .ireturn, 1)]
theorem DL_declares : TL_declares.all (fun q => decide (decode cL_declares q.1 = .ok (q.2.1, q.2.2))) = true := by decide +kernel
def TL_when : List (Nat × Instr × Nat) := [(0, .aload_n 3, 1), (1, .iconst 0, 1), (2, .aload_n 0, 1), (3, .iload_n 1, 1), (4, .iload_n 2, 1), (5, .invokevirtual 90, 3), (8, .i2l, 1), (9, .lastore, 1), (10, .goto 11, 3), (13, .astore 4, 2), (15, .iconst 1, 1), (16, .ireturn, 1), (17, .astore 4, 2), (19, .iconst 2, 1), (20, .ireturn, 1), (21, .iconst 0, 1), (22, .ireturn, 1)]
theorem DL_when : TL_when.all (fun q => decide (decode cL_when q.1 = .ok (q.2.1, q.2.2))) = true := by decide +kernel
def TL_enforces : List (Nat × Instr × Nat) := [(0, .aload_n 3, 1), (1, .iconst 0, 1), (2, .aload_n 0, 1), (3, .iload_n 1, 1), (4, .iload_n 2, 1), (5, .invokevirtual 93, 3), (8, .ifCond .eq 7, 3), (11, .lconst 1, 1), (12, .goto 4, 3), (15, .lconst 0, 1), (16, .lastore, 1), (17, .goto 11, 3), (20, .astore 4, 2), (22, .iconst 1, 1), (23, .ireturn, 1), (24, .astore 4, 2), (26, .iconst 2, 1), (27, .ireturn, 1), (28, .iconst 0, 1), (29, .ireturn, 1)]
theorem DL_enforces : TL_enforces.all (fun q => decide (decode cL_enforces q.1 = .ok (q.2.1, q.2.2))) = true := by decide +kernel
def TL_chased : List (Nat × Instr × Nat) := [(0, .aload_n 2, 1), (1, .iconst 0, 1), (2, .aload_n 0, 1), (3, .iload_n 1, 1), (4, .invokevirtual 97, 3), (7, .i2l, 1), (8, .lastore, 1), (9, .goto 6, 3), (12, .astore_n 3, 1), (13, .iconst 1, 1), (14, .ireturn, 1), (15, .iconst 0, 1), (16, .ireturn, 1)]
theorem DL_chased : TL_chased.all (fun q => decide (decode cL_chased q.1 = .ok (q.2.1, q.2.2))) = true := by decide +kernel
def TL_holds : List (Nat × Instr × Nat) := [(0, .aload 5, 2), (2, .iconst 0, 1), (3, .aload_n 0, 1), (4, .iload_n 1, 1), (5, .iload_n 2, 1), (6, .iload_n 3, 1), (7, .iload 4, 2), (9, .invokevirtual 100, 3), (12, .ifCond .eq 7, 3), (15, .lconst 1, 1), (16, .goto 4, 3), (19, .lconst 0, 1), (20, .lastore, 1), (21, .goto 11, 3), (24, .astore 6, 2), (26, .iconst 1, 1), (27, .ireturn, 1), (28, .astore 6, 2), (30, .iconst 2, 1), (31, .ireturn, 1), (32, .iconst 0, 1), (33, .ireturn, 1)]
theorem DL_holds : TL_holds.all (fun q => decide (decode cL_holds q.1 = .ok (q.2.1, q.2.2))) = true := by decide +kernel
def TL_turnover : List (Nat × Instr × Nat) := [(0, .aload_n 3, 1), (1, .iconst 0, 1), (2, .aload_n 0, 1), (3, .iload_n 1, 1), (4, .iload_n 2, 1), (5, .invokevirtual 104, 3), (8, .i2l, 1), (9, .lastore, 1), (10, .goto 11, 3), (13, .astore 4, 2), (15, .iconst 1, 1), (16, .ireturn, 1), (17, .astore 4, 2), (19, .iconst 2, 1), (20, .ireturn, 1), (21, .iconst 0, 1), (22, .ireturn, 1)]
theorem DL_turnover : TL_turnover.all (fun q => decide (decode cL_turnover q.1 = .ok (q.2.1, q.2.2))) = true := by decide +kernel
def TL_line : List (Nat × Instr × Nat) := [(0, .aload 6, 2), (2, .iconst 0, 1), (3, .aload_n 0, 1), (4, .iload_n 1, 1), (5, .iload_n 2, 1), (6, .iload_n 3, 1), (7, .iload 4, 2), (9, .iload 5, 2), (11, .invokevirtual 107, 3), (14, .i2l, 1), (15, .lastore, 1), (16, .goto 11, 3), (19, .astore 7, 2), (21, .iconst 1, 1), (22, .ireturn, 1), (23, .astore 7, 2), (25, .iconst 2, 1), (26, .ireturn, 1), (27, .iconst 0, 1), (28, .ireturn, 1)]
theorem DL_line : TL_line.all (fun q => decide (decode cL_line q.1 = .ok (q.2.1, q.2.2))) = true := by decide +kernel
def TL_cost : List (Nat × Instr × Nat) := [(0, .aload_n 2, 1), (1, .iconst 0, 1), (2, .aload_n 0, 1), (3, .iload_n 1, 1), (4, .invokevirtual 111, 3), (7, .lastore, 1), (8, .goto 9, 3), (11, .astore_n 3, 1), (12, .iconst 1, 1), (13, .ireturn, 1), (14, .astore_n 3, 1), (15, .iconst 2, 1), (16, .ireturn, 1), (17, .iconst 0, 1), (18, .ireturn, 1)]
theorem DL_cost : TL_cost.all (fun q => decide (decode cL_cost q.1 = .ok (q.2.1, q.2.2))) = true := by decide +kernel
def TL_swing : List (Nat × Instr × Nat) := [(0, .aload_n 1, 1), (1, .iconst 0, 1), (2, .aload_n 0, 1), (3, .invokevirtual 114, 3), (6, .i2l, 1), (7, .lastore, 1), (8, .goto 9, 3), (11, .astore_n 2, 1), (12, .iconst 1, 1), (13, .ireturn, 1), (14, .astore_n 2, 1), (15, .iconst 2, 1), (16, .ireturn, 1), (17, .iconst 0, 1), (18, .ireturn, 1)]
theorem DL_swing : TL_swing.all (fun q => decide (decode cL_swing q.1 = .ok (q.2.1, q.2.2))) = true := by decide +kernel
def TL_book : List (Nat × Instr × Nat) := [(0, .aload_n 2, 1), (1, .iconst 0, 1), (2, .aload_n 0, 1), (3, .iload_n 1, 1), (4, .invokevirtual 117, 3), (7, .i2l, 1), (8, .lastore, 1), (9, .goto 6, 3), (12, .astore_n 3, 1), (13, .iconst 1, 1), (14, .ireturn, 1), (15, .iconst 0, 1), (16, .ireturn, 1)]
theorem DL_book : TL_book.all (fun q => decide (decode cL_book q.1 = .ok (q.2.1, q.2.2))) = true := by decide +kernel
def TL_share : List (Nat × Instr × Nat) := [(0, .aload_n 3, 1), (1, .iconst 0, 1), (2, .aload_n 0, 1), (3, .iload_n 1, 1), (4, .iload_n 2, 1), (5, .invokevirtual 120, 3), (8, .i2l, 1), (9, .lastore, 1), (10, .goto 7, 3), (13, .astore 4, 2), (15, .iconst 1, 1), (16, .ireturn, 1), (17, .iconst 0, 1), (18, .ireturn, 1)]
theorem DL_share : TL_share.all (fun q => decide (decode cL_share q.1 = .ok (q.2.1, q.2.2))) = true := by decide +kernel
def TL_signs : List (Nat × Instr × Nat) := [(0, .aload 4, 2), (2, .iconst 0, 1), (3, .aload_n 0, 1), (4, .iload_n 1, 1), (5, .iload_n 2, 1), (6, .iload_n 3, 1), (7, .invokevirtual 123, 3), (10, .i2l, 1), (11, .lastore, 1), (12, .goto 7, 3), (15, .astore 5, 2), (17, .iconst 1, 1), (18, .ireturn, 1), (19, .iconst 0, 1), (20, .ireturn, 1)]
theorem DL_signs : TL_signs.all (fun q => decide (decode cL_signs q.1 = .ok (q.2.1, q.2.2))) = true := by decide +kernel
def TL_best : List (Nat × Instr × Nat) := [(0, .aload_n 3, 1), (1, .iconst 0, 1), (2, .aload_n 0, 1), (3, .iload_n 1, 1), (4, .iload_n 2, 1), (5, .invokevirtual 126, 3), (8, .i2l, 1), (9, .lastore, 1), (10, .goto 7, 3), (13, .astore 4, 2), (15, .iconst 1, 1), (16, .ireturn, 1), (17, .iconst 0, 1), (18, .ireturn, 1)]
theorem DL_best : TL_best.all (fun q => decide (decode cL_best q.1 = .ok (q.2.1, q.2.2))) = true := by decide +kernel
def TL_blind : List (Nat × Instr × Nat) := [(0, .aload_n 2, 1), (1, .iconst 0, 1), (2, .aload_n 0, 1), (3, .iload_n 1, 1), (4, .invokevirtual 130, 3), (7, .lastore, 1), (8, .goto 9, 3), (11, .astore_n 3, 1), (12, .iconst 1, 1), (13, .ireturn, 1), (14, .astore_n 3, 1), (15, .iconst 2, 1), (16, .ireturn, 1), (17, .iconst 0, 1), (18, .ireturn, 1)]
theorem DL_blind : TL_blind.all (fun q => decide (decode cL_blind q.1 = .ok (q.2.1, q.2.2))) = true := by decide +kernel
def TL_target : List (Nat × Instr × Nat) := [(0, .aload_n 2, 1), (1, .iconst 0, 1), (2, .aload_n 0, 1), (3, .iload_n 1, 1), (4, .invokevirtual 133, 3), (7, .i2l, 1), (8, .lastore, 1), (9, .goto 6, 3), (12, .astore_n 3, 1), (13, .iconst 1, 1), (14, .ireturn, 1), (15, .iconst 0, 1), (16, .ireturn, 1)]
theorem DL_target : TL_target.all (fun q => decide (decode cL_target q.1 = .ok (q.2.1, q.2.2))) = true := by decide +kernel
def TL_streak : List (Nat × Instr × Nat) := [(0, .aload_n 2, 1), (1, .iconst 0, 1), (2, .aload_n 0, 1), (3, .iload_n 1, 1), (4, .invokevirtual 136, 3), (7, .i2l, 1), (8, .lastore, 1), (9, .goto 6, 3), (12, .astore_n 3, 1), (13, .iconst 1, 1), (14, .ireturn, 1), (15, .iconst 0, 1), (16, .ireturn, 1)]
theorem DL_streak : TL_streak.all (fun q => decide (decode cL_streak q.1 = .ok (q.2.1, q.2.2))) = true := by decide +kernel
def TL_table : List (Nat × Instr × Nat) := [(0, .aload 5, 2), (2, .iconst 0, 1), (3, .aload_n 0, 1), (4, .iload_n 1, 1), (5, .iload_n 2, 1), (6, .iload_n 3, 1), (7, .iload 4, 2), (9, .invokevirtual 139, 3), (12, .i2l, 1), (13, .lastore, 1), (14, .goto 7, 3), (17, .astore 6, 2), (19, .iconst 1, 1), (20, .ireturn, 1), (21, .iconst 0, 1), (22, .ireturn, 1)]
theorem DL_table : TL_table.all (fun q => decide (decode cL_table q.1 = .ok (q.2.1, q.2.2))) = true := by decide +kernel
def TL_form : List (Nat × Instr × Nat) := [(0, .aload_n 3, 1), (1, .iconst 0, 1), (2, .aload_n 0, 1), (3, .iload_n 1, 1), (4, .iload_n 2, 1), (5, .invokevirtual 143, 3), (8, .i2l, 1), (9, .lastore, 1), (10, .goto 11, 3), (13, .astore 4, 2), (15, .iconst 1, 1), (16, .ireturn, 1), (17, .astore 4, 2), (19, .iconst 2, 1), (20, .ireturn, 1), (21, .iconst 0, 1), (22, .ireturn, 1)]
theorem DL_form : TL_form.all (fun q => decide (decode cL_form q.1 = .ok (q.2.1, q.2.2))) = true := by decide +kernel
def TL_hardest : List (Nat × Instr × Nat) := [(0, .aload_n 3, 1), (1, .iconst 0, 1), (2, .aload_n 0, 1), (3, .iload_n 1, 1), (4, .iload_n 2, 1), (5, .invokevirtual 146, 3), (8, .i2l, 1), (9, .lastore, 1), (10, .goto 7, 3), (13, .astore 4, 2), (15, .iconst 1, 1), (16, .ireturn, 1), (17, .iconst 0, 1), (18, .ireturn, 1)]
theorem DL_hardest : TL_hardest.all (fun q => decide (decode cL_hardest q.1 = .ok (q.2.1, q.2.2))) = true := by decide +kernel
def TL_log : List (Nat × Instr × Nat) := [(0, .aload_n 3, 1), (1, .iconst 0, 1), (2, .aload_n 0, 1), (3, .iload_n 1, 1), (4, .iload_n 2, 1), (5, .invokevirtual 149, 3), (8, .i2l, 1), (9, .lastore, 1), (10, .goto 7, 3), (13, .astore 4, 2), (15, .iconst 1, 1), (16, .ireturn, 1), (17, .iconst 0, 1), (18, .ireturn, 1)]
theorem DL_log : TL_log.all (fun q => decide (decode cL_log q.1 = .ok (q.2.1, q.2.2))) = true := by decide +kernel
