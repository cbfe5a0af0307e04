theorem q133 : Cond.initialized yL_log.cls ∈ lw_tbl := mem_tables_1_1 (List.mem_of_getElem? (i := 0) rfl)
theorem q509 : Cond.methodLink RL 156 yX10_feed ∈ lw_tbl := mem_tables_1_2 (List.mem_of_getElem? (i := 136) rfl)
theorem q510 : Cond.instanceMethod yX10_feed ∈ lw_tbl := mem_tables_1_2 (List.mem_of_getElem? (i := 137) rfl)
theorem q511 : Cond.selects RX10 yX10_feed yX10_feed ∈ lw_tbl := mem_tables_1_2 (List.mem_of_getElem? (i := 138) rfl)
theorem q512 : Cond.code yX10_feed cX10_feed 6 (some .int) ∈ lw_tbl := mem_tables_1_2 (List.mem_of_getElem? (i := 139) rfl)
theorem q517 : Cond.methodLink RL 161 yX10_end ∈ lw_tbl := mem_tables_1_2 (List.mem_of_getElem? (i := 144) rfl)
theorem q518 : Cond.instanceMethod yX10_end ∈ lw_tbl := mem_tables_1_2 (List.mem_of_getElem? (i := 145) rfl)
theorem q519 : Cond.selects RX10 yX10_end yX10_end ∈ lw_tbl := mem_tables_1_2 (List.mem_of_getElem? (i := 146) rfl)
theorem q520 : Cond.code yX10_end cX10_end 2 (some .boolean) ∈ lw_tbl := mem_tables_1_2 (List.mem_of_getElem? (i := 147) rfl)
theorem q521 : Cond.methodLink RL 178 yX10_fault ∈ lw_tbl := mem_tables_1_2 (List.mem_of_getElem? (i := 148) rfl)
theorem q522 : Cond.instanceMethod yX10_fault ∈ lw_tbl := mem_tables_1_2 (List.mem_of_getElem? (i := 149) rfl)
theorem q523 : Cond.selects RX10 yX10_fault yX10_fault ∈ lw_tbl := mem_tables_1_2 (List.mem_of_getElem? (i := 150) rfl)
theorem q524 : Cond.code yX10_fault cX10_fault 1 (some .int) ∈ lw_tbl := mem_tables_1_2 (List.mem_of_getElem? (i := 151) rfl)
theorem q525 : Cond.methodLink RL 334 yX10_count ∈ lw_tbl := mem_tables_1_2 (List.mem_of_getElem? (i := 152) rfl)
theorem q526 : Cond.instanceMethod yX10_count ∈ lw_tbl := mem_tables_1_2 (List.mem_of_getElem? (i := 153) rfl)
theorem q527 : Cond.selects RX10 yX10_count yX10_count ∈ lw_tbl := mem_tables_1_2 (List.mem_of_getElem? (i := 154) rfl)
theorem q528 : Cond.code yX10_count cX10_count 2 (some .int) ∈ lw_tbl := mem_tables_1_2 (List.mem_of_getElem? (i := 155) rfl)
theorem q529 : Cond.methodLink RL 220 yX10_anew ∈ lw_tbl := mem_tables_1_2 (List.mem_of_getElem? (i := 156) rfl)
theorem q530 : Cond.instanceMethod yX10_anew ∈ lw_tbl := mem_tables_1_2 (List.mem_of_getElem? (i := 157) rfl)
theorem q531 : Cond.selects RX10 yX10_anew yX10_anew ∈ lw_tbl := mem_tables_1_2 (List.mem_of_getElem? (i := 158) rfl)
theorem q532 : Cond.code yX10_anew cX10_anew 2 (some .int) ∈ lw_tbl := mem_tables_1_2 (List.mem_of_getElem? (i := 159) rfl)
theorem q552 : Cond.methodLink RL 317 yX10_seed ∈ lw_tbl := mem_tables_1_2 (List.mem_of_getElem? (i := 179) rfl)
theorem q553 : Cond.instanceMethod yX10_seed ∈ lw_tbl := mem_tables_1_2 (List.mem_of_getElem? (i := 180) rfl)
theorem q554 : Cond.selects RX10 yX10_seed yX10_seed ∈ lw_tbl := mem_tables_1_2 (List.mem_of_getElem? (i := 181) rfl)
theorem q555 : Cond.code yX10_seed cX10_seed 3 (some .int) ∈ lw_tbl := mem_tables_1_2 (List.mem_of_getElem? (i := 182) rfl)
theorem q556 : Cond.methodLink RL 321 yX10_undo ∈ lw_tbl := mem_tables_1_2 (List.mem_of_getElem? (i := 183) rfl)
theorem q557 : Cond.instanceMethod yX10_undo ∈ lw_tbl := mem_tables_1_2 (List.mem_of_getElem? (i := 184) rfl)
theorem q558 : Cond.selects RX10 yX10_undo yX10_undo ∈ lw_tbl := mem_tables_1_2 (List.mem_of_getElem? (i := 185) rfl)
theorem q559 : Cond.code yX10_undo cX10_undo 1 (some .boolean) ∈ lw_tbl := mem_tables_1_2 (List.mem_of_getElem? (i := 186) rfl)
theorem q564 : Cond.methodLink RL 326 yX10_image ∈ lw_tbl := mem_tables_1_2 (List.mem_of_getElem? (i := 191) rfl)
theorem q565 : Cond.instanceMethod yX10_image ∈ lw_tbl := mem_tables_1_2 (List.mem_of_getElem? (i := 192) rfl)
theorem q566 : Cond.selects RX10 yX10_image yX10_image ∈ lw_tbl := mem_tables_1_2 (List.mem_of_getElem? (i := 193) rfl)
theorem q567 : Cond.code yX10_image cX10_image 1 none ∈ lw_tbl := mem_tables_1_2 (List.mem_of_getElem? (i := 194) rfl)
theorem q581 : Cond.methodLink RL 330 yX10_back ∈ lw_tbl := mem_tables_1_2 (List.mem_of_getElem? (i := 208) rfl)
theorem q582 : Cond.instanceMethod yX10_back ∈ lw_tbl := mem_tables_1_2 (List.mem_of_getElem? (i := 209) rfl)
theorem q583 : Cond.selects RX10 yX10_back yX10_back ∈ lw_tbl := mem_tables_1_2 (List.mem_of_getElem? (i := 210) rfl)
theorem q584 : Cond.code yX10_back cX10_back 1 (some .boolean) ∈ lw_tbl := mem_tables_1_2 (List.mem_of_getElem? (i := 211) rfl)
theorem q601 : Cond.methodLink RL 233 yX10_well ∈ lw_tbl := mem_tables_1_2 (List.mem_of_getElem? (i := 228) rfl)
theorem q602 : Cond.instanceMethod yX10_well ∈ lw_tbl := mem_tables_1_2 (List.mem_of_getElem? (i := 229) rfl)
theorem q603 : Cond.selects RX10 yX10_well yX10_well ∈ lw_tbl := mem_tables_1_2 (List.mem_of_getElem? (i := 230) rfl)
theorem q604 : Cond.code yX10_well cX10_well 8 (some .int) ∈ lw_tbl := mem_tables_1_2 (List.mem_of_getElem? (i := 231) rfl)
theorem q765 : Cond.methodLink RL 283 yX10_habit ∈ lw_tbl := mem_tables_1_3 (List.mem_of_getElem? (i := 152) rfl)
theorem q766 : Cond.instanceMethod yX10_habit ∈ lw_tbl := mem_tables_1_3 (List.mem_of_getElem? (i := 153) rfl)
theorem q767 : Cond.selects RX10 yX10_habit yX10_habit ∈ lw_tbl := mem_tables_1_3 (List.mem_of_getElem? (i := 154) rfl)
theorem q768 : Cond.code yX10_habit cX10_habit 4 (some .boolean) ∈ lw_tbl := mem_tables_1_3 (List.mem_of_getElem? (i := 155) rfl)
theorem q778 : Cond.methodLink RL 166 yL_ground ∈ lw_tbl := mem_tables_1_3 (List.mem_of_getElem? (i := 165) rfl)
theorem q779 : Cond.static yL_ground ∈ lw_tbl := mem_tables_1_3 (List.mem_of_getElem? (i := 166) rfl)
theorem q780 : Cond.codeWith yL_ground cL_ground 3 (some .int) [(0, 8, 11, 13), (0, 8, 14, 15)] ∈ lw_tbl := mem_tables_1_3 (List.mem_of_getElem? (i := 167) rfl)
theorem q1108 : Cond.methodLink RL 175 yL_law ∈ lw_tbl := mem_tables_1_5 (List.mem_of_getElem? (i := 15) rfl)
theorem q1109 : Cond.static yL_law ∈ lw_tbl := mem_tables_1_5 (List.mem_of_getElem? (i := 16) rfl)
theorem q1110 : Cond.codeWith yL_law cL_law 3 (some .int) [(0, 8, 11, 13)] ∈ lw_tbl := mem_tables_1_5 (List.mem_of_getElem? (i := 17) rfl)
theorem q1123 : Cond.methodLink RL 182 yL_side ∈ lw_tbl := mem_tables_1_5 (List.mem_of_getElem? (i := 30) rfl)
theorem q1124 : Cond.static yL_side ∈ lw_tbl := mem_tables_1_5 (List.mem_of_getElem? (i := 31) rfl)
theorem q1125 : Cond.codeWith yL_side cL_side 5 (some .int) [(0, 10, 13, 24)] ∈ lw_tbl := mem_tables_1_5 (List.mem_of_getElem? (i := 32) rfl)
theorem q1153 : Cond.methodLink RL 186 yL_slot ∈ lw_tbl := mem_tables_1_5 (List.mem_of_getElem? (i := 60) rfl)
theorem q1154 : Cond.static yL_slot ∈ lw_tbl := mem_tables_1_5 (List.mem_of_getElem? (i := 61) rfl)
theorem q1155 : Cond.codeWith yL_slot cL_slot 6 (some .int) [(0, 12, 15, 24)] ∈ lw_tbl := mem_tables_1_5 (List.mem_of_getElem? (i := 62) rfl)
theorem q1162 : Cond.methodLink RL 190 yL_session ∈ lw_tbl := mem_tables_1_5 (List.mem_of_getElem? (i := 69) rfl)
theorem q1163 : Cond.static yL_session ∈ lw_tbl := mem_tables_1_5 (List.mem_of_getElem? (i := 70) rfl)
theorem q1164 : Cond.codeWith yL_session cL_session 5 (some .int) [(0, 10, 13, 24), (0, 10, 17, 34)] ∈ lw_tbl := mem_tables_1_5 (List.mem_of_getElem? (i := 71) rfl)
theorem q1187 : Cond.methodLink RL 194 yL_level ∈ lw_tbl := mem_tables_1_5 (List.mem_of_getElem? (i := 94) rfl)
theorem q1188 : Cond.static yL_level ∈ lw_tbl := mem_tables_1_5 (List.mem_of_getElem? (i := 95) rfl)
theorem q1189 : Cond.codeWith yL_level cL_level 6 (some .int) [(0, 12, 15, 24)] ∈ lw_tbl := mem_tables_1_5 (List.mem_of_getElem? (i := 96) rfl)
theorem q1195 : Cond.methodLink RL 198 yL_match ∈ lw_tbl := mem_tables_1_5 (List.mem_of_getElem? (i := 102) rfl)
theorem q1196 : Cond.static yL_match ∈ lw_tbl := mem_tables_1_5 (List.mem_of_getElem? (i := 103) rfl)
theorem q1197 : Cond.codeWith yL_match cL_match 4 (some .int) [(0, 9, 12, 34)] ∈ lw_tbl := mem_tables_1_5 (List.mem_of_getElem? (i := 104) rfl)
theorem q1231 : Cond.methodLink RL 202 yL_toss ∈ lw_tbl := mem_tables_1_5 (List.mem_of_getElem? (i := 138) rfl)
theorem q1232 : Cond.static yL_toss ∈ lw_tbl := mem_tables_1_5 (List.mem_of_getElem? (i := 139) rfl)
theorem q1233 : Cond.codeWith yL_toss cL_toss 4 (some .int) [(0, 9, 12, 24), (0, 9, 15, 47)] ∈ lw_tbl := mem_tables_1_5 (List.mem_of_getElem? (i := 140) rfl)
theorem q1259 : Cond.methodLink RL 205 yL_play ∈ lw_tbl := mem_tables_1_5 (List.mem_of_getElem? (i := 166) rfl)
theorem q1260 : Cond.static yL_play ∈ lw_tbl := mem_tables_1_5 (List.mem_of_getElem? (i := 167) rfl)
theorem q1261 : Cond.codeWith yL_play cL_play 3 (some .int) [(0, 8, 11, 47)] ∈ lw_tbl := mem_tables_1_5 (List.mem_of_getElem? (i := 168) rfl)
theorem q1298 : Cond.methodLink RL 208 yL_bring ∈ lw_tbl := mem_tables_1_5 (List.mem_of_getElem? (i := 205) rfl)
theorem q1299 : Cond.static yL_bring ∈ lw_tbl := mem_tables_1_5 (List.mem_of_getElem? (i := 206) rfl)
theorem q1300 : Cond.codeWith yL_bring cL_bring 4 (some .int) [(0, 9, 12, 24), (0, 9, 15, 47)] ∈ lw_tbl := mem_tables_1_5 (List.mem_of_getElem? (i := 207) rfl)
theorem q1306 : Cond.methodLink RL 211 yL_hold ∈ lw_tbl := mem_tables_1_5 (List.mem_of_getElem? (i := 213) rfl)
theorem q1307 : Cond.static yL_hold ∈ lw_tbl := mem_tables_1_5 (List.mem_of_getElem? (i := 214) rfl)
theorem q1308 : Cond.codeWith yL_hold cL_hold 4 (some .int) [(0, 9, 12, 24), (0, 9, 15, 47)] ∈ lw_tbl := mem_tables_1_5 (List.mem_of_getElem? (i := 215) rfl)
theorem q1318 : Cond.methodLink RL 214 yL_declare ∈ lw_tbl := mem_tables_1_5 (List.mem_of_getElem? (i := 225) rfl)
theorem q1319 : Cond.static yL_declare ∈ lw_tbl := mem_tables_1_5 (List.mem_of_getElem? (i := 226) rfl)
theorem q1320 : Cond.codeWith yL_declare cL_declare 3 (some .int) [(0, 8, 11, 47)] ∈ lw_tbl := mem_tables_1_5 (List.mem_of_getElem? (i := 227) rfl)
theorem q1334 : Cond.methodLink RL 217 yL_follow ∈ lw_tbl := mem_tables_1_6 (List.mem_of_getElem? (i := 1) rfl)
theorem q1335 : Cond.static yL_follow ∈ lw_tbl := mem_tables_1_6 (List.mem_of_getElem? (i := 2) rfl)
theorem q1336 : Cond.codeWith yL_follow cL_follow 3 (some .int) [(0, 8, 11, 47)] ∈ lw_tbl := mem_tables_1_6 (List.mem_of_getElem? (i := 3) rfl)
theorem q1342 : Cond.methodLink RL 224 yL_here ∈ lw_tbl := mem_tables_1_6 (List.mem_of_getElem? (i := 9) rfl)
theorem q1343 : Cond.static yL_here ∈ lw_tbl := mem_tables_1_6 (List.mem_of_getElem? (i := 10) rfl)
theorem q1344 : Cond.codeWith yL_here cL_here 4 (some .int) [(0, 8, 11, 47), (0, 8, 14, 34)] ∈ lw_tbl := mem_tables_1_6 (List.mem_of_getElem? (i := 11) rfl)
theorem q1369 : Cond.methodLink RL 227 yL_worth ∈ lw_tbl := mem_tables_1_6 (List.mem_of_getElem? (i := 36) rfl)
theorem q1370 : Cond.static yL_worth ∈ lw_tbl := mem_tables_1_6 (List.mem_of_getElem? (i := 37) rfl)
theorem q1371 : Cond.codeWith yL_worth cL_worth 5 (some .int) [(0, 9, 12, 24), (0, 9, 16, 34)] ∈ lw_tbl := mem_tables_1_6 (List.mem_of_getElem? (i := 38) rfl)
theorem q1383 : Cond.methodLink RL 230 yL_evens ∈ lw_tbl := mem_tables_1_6 (List.mem_of_getElem? (i := 50) rfl)
theorem q1384 : Cond.static yL_evens ∈ lw_tbl := mem_tables_1_6 (List.mem_of_getElem? (i := 51) rfl)
theorem q1385 : Cond.codeWith yL_evens cL_evens 4 (some .int) [(0, 8, 11, 24)] ∈ lw_tbl := mem_tables_1_6 (List.mem_of_getElem? (i := 52) rfl)
theorem q1393 : Cond.methodLink RL 237 yL_after ∈ lw_tbl := mem_tables_1_6 (List.mem_of_getElem? (i := 60) rfl)
theorem q1394 : Cond.static yL_after ∈ lw_tbl := mem_tables_1_6 (List.mem_of_getElem? (i := 61) rfl)
theorem q1395 : Cond.codeWith yL_after cL_after 5 (some .int) [(0, 9, 12, 24), (0, 9, 16, 47), (0, 9, 20, 34)] ∈ lw_tbl := mem_tables_1_6 (List.mem_of_getElem? (i := 62) rfl)
theorem q1408 : Cond.methodLink RL 240 yL_turning ∈ lw_tbl := mem_tables_1_6 (List.mem_of_getElem? (i := 75) rfl)
theorem q1409 : Cond.static yL_turning ∈ lw_tbl := mem_tables_1_6 (List.mem_of_getElem? (i := 76) rfl)
theorem q1410 : Cond.codeWith yL_turning cL_turning 4 (some .int) [(0, 9, 12, 47)] ∈ lw_tbl := mem_tables_1_6 (List.mem_of_getElem? (i := 77) rfl)
theorem q1415 : Cond.methodLink RL 244 yL_wins ∈ lw_tbl := mem_tables_1_6 (List.mem_of_getElem? (i := 82) rfl)
theorem q1416 : Cond.static yL_wins ∈ lw_tbl := mem_tables_1_6 (List.mem_of_getElem? (i := 83) rfl)
theorem q1417 : Cond.codeWith yL_wins cL_wins 9 (some .int) [(0, 17, 20, 24), (0, 17, 24, 13), (0, 17, 28, 34)] ∈ lw_tbl := mem_tables_1_6 (List.mem_of_getElem? (i := 84) rfl)
theorem q1434 : Cond.methodLink RL 248 yL_declares ∈ lw_tbl := mem_tables_1_6 (List.mem_of_getElem? (i := 101) rfl)
theorem q1435 : Cond.static yL_declares ∈ lw_tbl := mem_tables_1_6 (List.mem_of_getElem? (i := 102) rfl)
theorem q1436 : Cond.codeWith yL_declares cL_declares 8 (some .int) [(0, 23, 26, 24), (0, 23, 30, 13)] ∈ lw_tbl := mem_tables_1_6 (List.mem_of_getElem? (i := 103) rfl)
theorem q1449 : Cond.methodLink RL 252 yL_when ∈ lw_tbl := mem_tables_1_6 (List.mem_of_getElem? (i := 116) rfl)
theorem q1450 : Cond.static yL_when ∈ lw_tbl := mem_tables_1_6 (List.mem_of_getElem? (i := 117) rfl)
theorem q1451 : Cond.codeWith yL_when cL_when 5 (some .int) [(0, 10, 13, 24), (0, 10, 17, 13)] ∈ lw_tbl := mem_tables_1_6 (List.mem_of_getElem? (i := 118) rfl)
theorem q1456 : Cond.methodLink RL 255 yL_enforces ∈ lw_tbl := mem_tables_1_6 (List.mem_of_getElem? (i := 123) rfl)
theorem q1457 : Cond.static yL_enforces ∈ lw_tbl := mem_tables_1_6 (List.mem_of_getElem? (i := 124) rfl)
theorem q1458 : Cond.codeWith yL_enforces cL_enforces 5 (some .int) [(0, 17, 20, 24), (0, 17, 24, 13)] ∈ lw_tbl := mem_tables_1_6 (List.mem_of_getElem? (i := 125) rfl)
theorem q1464 : Cond.methodLink RL 258 yL_chased ∈ lw_tbl := mem_tables_1_6 (List.mem_of_getElem? (i := 131) rfl)
theorem q1465 : Cond.static yL_chased ∈ lw_tbl := mem_tables_1_6 (List.mem_of_getElem? (i := 132) rfl)
theorem q1466 : Cond.codeWith yL_chased cL_chased 4 (some .int) [(0, 9, 12, 24)] ∈ lw_tbl := mem_tables_1_6 (List.mem_of_getElem? (i := 133) rfl)
theorem q1471 : Cond.methodLink RL 261 yL_holds ∈ lw_tbl := mem_tables_1_6 (List.mem_of_getElem? (i := 138) rfl)
theorem q1472 : Cond.static yL_holds ∈ lw_tbl := mem_tables_1_6 (List.mem_of_getElem? (i := 139) rfl)
theorem q1473 : Cond.codeWith yL_holds cL_holds 7 (some .int) [(0, 21, 24, 24), (0, 21, 28, 13)] ∈ lw_tbl := mem_tables_1_6 (List.mem_of_getElem? (i := 140) rfl)
theorem q1478 : Cond.methodLink RL 265 yL_turnover ∈ lw_tbl := mem_tables_1_6 (List.mem_of_getElem? (i := 145) rfl)
theorem q1479 : Cond.static yL_turnover ∈ lw_tbl := mem_tables_1_6 (List.mem_of_getElem? (i := 146) rfl)
theorem q1480 : Cond.codeWith yL_turnover cL_turnover 5 (some .int) [(0, 10, 13, 24), (0, 10, 17, 13)] ∈ lw_tbl := mem_tables_1_6 (List.mem_of_getElem? (i := 147) rfl)
theorem q1485 : Cond.methodLink RL 268 yL_line ∈ lw_tbl := mem_tables_1_6 (List.mem_of_getElem? (i := 152) rfl)
theorem q1486 : Cond.static yL_line ∈ lw_tbl := mem_tables_1_6 (List.mem_of_getElem? (i := 153) rfl)
theorem q1487 : Cond.codeWith yL_line cL_line 8 (some .int) [(0, 16, 19, 24), (0, 16, 23, 13)] ∈ lw_tbl := mem_tables_1_6 (List.mem_of_getElem? (i := 154) rfl)
theorem q1492 : Cond.methodLink RL 271 yL_cost ∈ lw_tbl := mem_tables_1_6 (List.mem_of_getElem? (i := 159) rfl)
theorem q1493 : Cond.static yL_cost ∈ lw_tbl := mem_tables_1_6 (List.mem_of_getElem? (i := 160) rfl)
theorem q1494 : Cond.codeWith yL_cost cL_cost 4 (some .int) [(0, 8, 11, 13), (0, 8, 14, 47)] ∈ lw_tbl := mem_tables_1_6 (List.mem_of_getElem? (i := 161) rfl)
theorem q1506 : Cond.methodLink RL 274 yL_swing ∈ lw_tbl := mem_tables_1_6 (List.mem_of_getElem? (i := 173) rfl)
theorem q1507 : Cond.static yL_swing ∈ lw_tbl := mem_tables_1_6 (List.mem_of_getElem? (i := 174) rfl)
theorem q1508 : Cond.codeWith yL_swing cL_swing 3 (some .int) [(0, 8, 11, 47), (0, 8, 14, 13)] ∈ lw_tbl := mem_tables_1_6 (List.mem_of_getElem? (i := 175) rfl)
theorem q1518 : Cond.methodLink RL 277 yL_book ∈ lw_tbl := mem_tables_1_6 (List.mem_of_getElem? (i := 185) rfl)
theorem q1519 : Cond.static yL_book ∈ lw_tbl := mem_tables_1_6 (List.mem_of_getElem? (i := 186) rfl)
theorem q1520 : Cond.codeWith yL_book cL_book 4 (some .int) [(0, 9, 12, 34)] ∈ lw_tbl := mem_tables_1_6 (List.mem_of_getElem? (i := 187) rfl)
theorem q1525 : Cond.methodLink RL 280 yL_share ∈ lw_tbl := mem_tables_1_6 (List.mem_of_getElem? (i := 192) rfl)
theorem q1526 : Cond.static yL_share ∈ lw_tbl := mem_tables_1_6 (List.mem_of_getElem? (i := 193) rfl)
theorem q1527 : Cond.codeWith yL_share cL_share 5 (some .int) [(0, 10, 13, 34)] ∈ lw_tbl := mem_tables_1_6 (List.mem_of_getElem? (i := 194) rfl)
theorem q1532 : Cond.methodLink RL 288 yL_signs ∈ lw_tbl := mem_tables_1_6 (List.mem_of_getElem? (i := 199) rfl)
theorem q1533 : Cond.static yL_signs ∈ lw_tbl := mem_tables_1_6 (List.mem_of_getElem? (i := 200) rfl)
theorem q1534 : Cond.codeWith yL_signs cL_signs 6 (some .int) [(0, 12, 15, 13)] ∈ lw_tbl := mem_tables_1_6 (List.mem_of_getElem? (i := 201) rfl)
theorem q1559 : Cond.methodLink RL 291 yL_best ∈ lw_tbl := mem_tables_1_6 (List.mem_of_getElem? (i := 226) rfl)
theorem q1560 : Cond.static yL_best ∈ lw_tbl := mem_tables_1_6 (List.mem_of_getElem? (i := 227) rfl)
theorem q1561 : Cond.codeWith yL_best cL_best 5 (some .int) [(0, 10, 13, 13)] ∈ lw_tbl := mem_tables_1_6 (List.mem_of_getElem? (i := 228) rfl)
theorem q1572 : Cond.methodLink RL 295 yL_blind ∈ lw_tbl := mem_tables_1_6 (List.mem_of_getElem? (i := 239) rfl)
theorem q1573 : Cond.static yL_blind ∈ lw_tbl := mem_tables_1_7 (List.mem_of_getElem? (i := 0) rfl)
theorem q1574 : Cond.codeWith yL_blind cL_blind 4 (some .int) [(0, 8, 11, 47), (0, 8, 14, 34)] ∈ lw_tbl := mem_tables_1_7 (List.mem_of_getElem? (i := 1) rfl)
theorem q1579 : Cond.methodLink RL 298 yL_target ∈ lw_tbl := mem_tables_1_7 (List.mem_of_getElem? (i := 6) rfl)
theorem q1580 : Cond.static yL_target ∈ lw_tbl := mem_tables_1_7 (List.mem_of_getElem? (i := 7) rfl)
theorem q1581 : Cond.codeWith yL_target cL_target 4 (some .int) [(0, 9, 12, 47)] ∈ lw_tbl := mem_tables_1_7 (List.mem_of_getElem? (i := 8) rfl)
theorem q1586 : Cond.methodLink RL 301 yL_streak ∈ lw_tbl := mem_tables_1_7 (List.mem_of_getElem? (i := 13) rfl)
theorem q1587 : Cond.static yL_streak ∈ lw_tbl := mem_tables_1_7 (List.mem_of_getElem? (i := 14) rfl)
theorem q1588 : Cond.codeWith yL_streak cL_streak 4 (some .int) [(0, 9, 12, 34)] ∈ lw_tbl := mem_tables_1_7 (List.mem_of_getElem? (i := 15) rfl)
theorem q1598 : Cond.methodLink RL 304 yL_table ∈ lw_tbl := mem_tables_1_7 (List.mem_of_getElem? (i := 25) rfl)
theorem q1599 : Cond.static yL_table ∈ lw_tbl := mem_tables_1_7 (List.mem_of_getElem? (i := 26) rfl)
theorem q1600 : Cond.codeWith yL_table cL_table 7 (some .int) [(0, 14, 17, 24)] ∈ lw_tbl := mem_tables_1_7 (List.mem_of_getElem? (i := 27) rfl)
theorem q1607 : Cond.methodLink RL 308 yL_form ∈ lw_tbl := mem_tables_1_7 (List.mem_of_getElem? (i := 34) rfl)
theorem q1608 : Cond.static yL_form ∈ lw_tbl := mem_tables_1_7 (List.mem_of_getElem? (i := 35) rfl)
theorem q1609 : Cond.codeWith yL_form cL_form 5 (some .int) [(0, 10, 13, 24), (0, 10, 17, 13)] ∈ lw_tbl := mem_tables_1_7 (List.mem_of_getElem? (i := 36) rfl)
theorem q1619 : Cond.methodLink RL 311 yL_hardest ∈ lw_tbl := mem_tables_1_7 (List.mem_of_getElem? (i := 46) rfl)
theorem q1620 : Cond.static yL_hardest ∈ lw_tbl := mem_tables_1_7 (List.mem_of_getElem? (i := 47) rfl)
theorem q1621 : Cond.codeWith yL_hardest cL_hardest 5 (some .int) [(0, 10, 13, 24)] ∈ lw_tbl := mem_tables_1_7 (List.mem_of_getElem? (i := 48) rfl)
theorem q1626 : Cond.methodLink RL 314 yL_log ∈ lw_tbl := mem_tables_1_7 (List.mem_of_getElem? (i := 53) rfl)
theorem q1627 : Cond.static yL_log ∈ lw_tbl := mem_tables_1_7 (List.mem_of_getElem? (i := 54) rfl)
theorem q1628 : Cond.codeWith yL_log cL_log 5 (some .int) [(0, 10, 13, 34)] ∈ lw_tbl := mem_tables_1_7 (List.mem_of_getElem? (i := 55) rfl)
theorem q1633 : Cond.methodLink RL 172 yX11_thrown ∈ lw_tbl := mem_tables_1_7 (List.mem_of_getElem? (i := 60) rfl)
theorem q1634 : Cond.instanceMethod yX11_thrown ∈ lw_tbl := mem_tables_1_7 (List.mem_of_getElem? (i := 61) rfl)
theorem q1635 : Cond.selects RX11 yX11_thrown yX11_thrown ∈ lw_tbl := mem_tables_1_7 (List.mem_of_getElem? (i := 62) rfl)
theorem q1636 : Cond.code yX11_thrown cX11_thrown 1 (some .int) ∈ lw_tbl := mem_tables_1_7 (List.mem_of_getElem? (i := 63) rfl)
theorem q1726 : Cond.methodLink RL 329 yX11_image ∈ lw_tbl := mem_tables_1_7 (List.mem_of_getElem? (i := 153) rfl)
theorem q1727 : Cond.instanceMethod yX11_image ∈ lw_tbl := mem_tables_1_7 (List.mem_of_getElem? (i := 154) rfl)
theorem q1728 : Cond.selects RX11 yX11_image yX11_image ∈ lw_tbl := mem_tables_1_7 (List.mem_of_getElem? (i := 155) rfl)
theorem q1729 : Cond.code yX11_image cX11_image 2 none ∈ lw_tbl := mem_tables_1_7 (List.mem_of_getElem? (i := 156) rfl)
theorem q1730 : Cond.methodLink RL 333 yX11_back ∈ lw_tbl := mem_tables_1_7 (List.mem_of_getElem? (i := 157) rfl)
theorem q1731 : Cond.instanceMethod yX11_back ∈ lw_tbl := mem_tables_1_7 (List.mem_of_getElem? (i := 158) rfl)
theorem q1732 : Cond.selects RX11 yX11_back yX11_back ∈ lw_tbl := mem_tables_1_7 (List.mem_of_getElem? (i := 159) rfl)
theorem q1733 : Cond.code yX11_back cX11_back 2 (some .boolean) ∈ lw_tbl := mem_tables_1_7 (List.mem_of_getElem? (i := 160) rfl)
theorem q1734 : Cond.methodLink RL 325 yX11_undo ∈ lw_tbl := mem_tables_1_7 (List.mem_of_getElem? (i := 161) rfl)
theorem q1735 : Cond.instanceMethod yX11_undo ∈ lw_tbl := mem_tables_1_7 (List.mem_of_getElem? (i := 162) rfl)
theorem q1736 : Cond.selects RX11 yX11_undo yX11_undo ∈ lw_tbl := mem_tables_1_7 (List.mem_of_getElem? (i := 163) rfl)
theorem q1737 : Cond.code yX11_undo cX11_undo 2 (some .boolean) ∈ lw_tbl := mem_tables_1_7 (List.mem_of_getElem? (i := 164) rfl)
theorem q1738 : Cond.methodLink RL 160 yX11_feed ∈ lw_tbl := mem_tables_1_7 (List.mem_of_getElem? (i := 165) rfl)
theorem q1739 : Cond.instanceMethod yX11_feed ∈ lw_tbl := mem_tables_1_7 (List.mem_of_getElem? (i := 166) rfl)
theorem q1740 : Cond.selects RX11 yX11_feed yX11_feed ∈ lw_tbl := mem_tables_1_7 (List.mem_of_getElem? (i := 167) rfl)
theorem q1741 : Cond.code yX11_feed cX11_feed 7 (some .int) ∈ lw_tbl := mem_tables_1_7 (List.mem_of_getElem? (i := 168) rfl)
theorem q1742 : Cond.methodLink RL 165 yX11_end ∈ lw_tbl := mem_tables_1_7 (List.mem_of_getElem? (i := 169) rfl)
theorem q1743 : Cond.instanceMethod yX11_end ∈ lw_tbl := mem_tables_1_7 (List.mem_of_getElem? (i := 170) rfl)
theorem q1744 : Cond.selects RX11 yX11_end yX11_end ∈ lw_tbl := mem_tables_1_7 (List.mem_of_getElem? (i := 171) rfl)
theorem q1745 : Cond.code yX11_end cX11_end 2 (some .boolean) ∈ lw_tbl := mem_tables_1_7 (List.mem_of_getElem? (i := 172) rfl)
theorem q1746 : Cond.methodLink RL 181 yX11_fault ∈ lw_tbl := mem_tables_1_7 (List.mem_of_getElem? (i := 173) rfl)
theorem q1747 : Cond.instanceMethod yX11_fault ∈ lw_tbl := mem_tables_1_7 (List.mem_of_getElem? (i := 174) rfl)
theorem q1748 : Cond.selects RX11 yX11_fault yX11_fault ∈ lw_tbl := mem_tables_1_7 (List.mem_of_getElem? (i := 175) rfl)
theorem q1749 : Cond.code yX11_fault cX11_fault 1 (some .int) ∈ lw_tbl := mem_tables_1_7 (List.mem_of_getElem? (i := 176) rfl)
theorem q1750 : Cond.methodLink RL 171 yX11_ground ∈ lw_tbl := mem_tables_1_7 (List.mem_of_getElem? (i := 177) rfl)
theorem q1751 : Cond.instanceMethod yX11_ground ∈ lw_tbl := mem_tables_1_7 (List.mem_of_getElem? (i := 178) rfl)
theorem q1752 : Cond.selects RX11 yX11_ground yX11_ground ∈ lw_tbl := mem_tables_1_7 (List.mem_of_getElem? (i := 179) rfl)
theorem q1753 : Cond.code yX11_ground cX11_ground 3 (some .int) ∈ lw_tbl := mem_tables_1_7 (List.mem_of_getElem? (i := 180) rfl)
theorem q1885 : Cond.methodLink RL 177 yX11_law ∈ lw_tbl := mem_tables_1_8 (List.mem_of_getElem? (i := 72) rfl)
theorem q1886 : Cond.instanceMethod yX11_law ∈ lw_tbl := mem_tables_1_8 (List.mem_of_getElem? (i := 73) rfl)
theorem q1887 : Cond.selects RX11 yX11_law yX11_law ∈ lw_tbl := mem_tables_1_8 (List.mem_of_getElem? (i := 74) rfl)
theorem q1888 : Cond.code yX11_law cX11_law 3 (some .int) ∈ lw_tbl := mem_tables_1_8 (List.mem_of_getElem? (i := 75) rfl)
theorem q1889 : Cond.methodLink RL 185 yX11_side ∈ lw_tbl := mem_tables_1_8 (List.mem_of_getElem? (i := 76) rfl)
theorem q1890 : Cond.instanceMethod yX11_side ∈ lw_tbl := mem_tables_1_8 (List.mem_of_getElem? (i := 77) rfl)
theorem q1891 : Cond.selects RX11 yX11_side yX11_side ∈ lw_tbl := mem_tables_1_8 (List.mem_of_getElem? (i := 78) rfl)
theorem q1892 : Cond.code yX11_side cX11_side 3 (some .int) ∈ lw_tbl := mem_tables_1_8 (List.mem_of_getElem? (i := 79) rfl)
theorem q1899 : Cond.methodLink RL 189 yX11_slot ∈ lw_tbl := mem_tables_1_8 (List.mem_of_getElem? (i := 86) rfl)
theorem q1900 : Cond.instanceMethod yX11_slot ∈ lw_tbl := mem_tables_1_8 (List.mem_of_getElem? (i := 87) rfl)
theorem q1901 : Cond.selects RX11 yX11_slot yX11_slot ∈ lw_tbl := mem_tables_1_8 (List.mem_of_getElem? (i := 88) rfl)
theorem q1902 : Cond.code yX11_slot cX11_slot 4 (some .int) ∈ lw_tbl := mem_tables_1_8 (List.mem_of_getElem? (i := 89) rfl)
theorem q1910 : Cond.methodLink RL 193 yX11_session ∈ lw_tbl := mem_tables_1_8 (List.mem_of_getElem? (i := 97) rfl)
theorem q1911 : Cond.instanceMethod yX11_session ∈ lw_tbl := mem_tables_1_8 (List.mem_of_getElem? (i := 98) rfl)
theorem q1912 : Cond.selects RX11 yX11_session yX11_session ∈ lw_tbl := mem_tables_1_8 (List.mem_of_getElem? (i := 99) rfl)
theorem q1913 : Cond.code yX11_session cX11_session 3 (some .int) ∈ lw_tbl := mem_tables_1_8 (List.mem_of_getElem? (i := 100) rfl)
theorem q1922 : Cond.methodLink RL 197 yX11_level ∈ lw_tbl := mem_tables_1_8 (List.mem_of_getElem? (i := 109) rfl)
theorem q1923 : Cond.instanceMethod yX11_level ∈ lw_tbl := mem_tables_1_8 (List.mem_of_getElem? (i := 110) rfl)
theorem q1924 : Cond.selects RX11 yX11_level yX11_level ∈ lw_tbl := mem_tables_1_8 (List.mem_of_getElem? (i := 111) rfl)
theorem q1925 : Cond.code yX11_level cX11_level 4 (some .int) ∈ lw_tbl := mem_tables_1_8 (List.mem_of_getElem? (i := 112) rfl)
theorem q1942 : Cond.methodLink RL 313 yX11_hardest ∈ lw_tbl := mem_tables_1_8 (List.mem_of_getElem? (i := 129) rfl)
theorem q1943 : Cond.instanceMethod yX11_hardest ∈ lw_tbl := mem_tables_1_8 (List.mem_of_getElem? (i := 130) rfl)
theorem q1944 : Cond.selects RX11 yX11_hardest yX11_hardest ∈ lw_tbl := mem_tables_1_8 (List.mem_of_getElem? (i := 131) rfl)
theorem q1945 : Cond.code yX11_hardest cX11_hardest 5 (some .int) ∈ lw_tbl := mem_tables_1_8 (List.mem_of_getElem? (i := 132) rfl)
theorem q1946 : Cond.methodLink RL 307 yX11_table ∈ lw_tbl := mem_tables_1_8 (List.mem_of_getElem? (i := 133) rfl)
theorem q1947 : Cond.instanceMethod yX11_table ∈ lw_tbl := mem_tables_1_8 (List.mem_of_getElem? (i := 134) rfl)
theorem q1948 : Cond.selects RX11 yX11_table yX11_table ∈ lw_tbl := mem_tables_1_8 (List.mem_of_getElem? (i := 135) rfl)
theorem q1949 : Cond.code yX11_table cX11_table 8 (some .int) ∈ lw_tbl := mem_tables_1_8 (List.mem_of_getElem? (i := 136) rfl)
theorem q1957 : Cond.methodLink RL 201 yX11_match ∈ lw_tbl := mem_tables_1_8 (List.mem_of_getElem? (i := 144) rfl)
theorem q1958 : Cond.instanceMethod yX11_match ∈ lw_tbl := mem_tables_1_8 (List.mem_of_getElem? (i := 145) rfl)
theorem q1959 : Cond.selects RX11 yX11_match yX11_match ∈ lw_tbl := mem_tables_1_8 (List.mem_of_getElem? (i := 146) rfl)
theorem q1960 : Cond.code yX11_match cX11_match 2 (some .int) ∈ lw_tbl := mem_tables_1_8 (List.mem_of_getElem? (i := 147) rfl)
theorem q1996 : Cond.methodLink RL 204 yX11_toss ∈ lw_tbl := mem_tables_1_8 (List.mem_of_getElem? (i := 183) rfl)
theorem q1997 : Cond.instanceMethod yX11_toss ∈ lw_tbl := mem_tables_1_8 (List.mem_of_getElem? (i := 184) rfl)
theorem q1998 : Cond.selects RX11 yX11_toss yX11_toss ∈ lw_tbl := mem_tables_1_8 (List.mem_of_getElem? (i := 185) rfl)
theorem q1999 : Cond.code yX11_toss cX11_toss 2 (some .int) ∈ lw_tbl := mem_tables_1_8 (List.mem_of_getElem? (i := 186) rfl)
theorem q2004 : Cond.methodLink RL 207 yX11_play ∈ lw_tbl := mem_tables_1_8 (List.mem_of_getElem? (i := 191) rfl)
theorem q2005 : Cond.instanceMethod yX11_play ∈ lw_tbl := mem_tables_1_8 (List.mem_of_getElem? (i := 192) rfl)
theorem q2006 : Cond.selects RX11 yX11_play yX11_play ∈ lw_tbl := mem_tables_1_8 (List.mem_of_getElem? (i := 193) rfl)
theorem q2007 : Cond.code yX11_play cX11_play 2 (some .int) ∈ lw_tbl := mem_tables_1_8 (List.mem_of_getElem? (i := 194) rfl)
theorem q2026 : Cond.methodLink RL 210 yX11_bring ∈ lw_tbl := mem_tables_1_8 (List.mem_of_getElem? (i := 213) rfl)
theorem q2027 : Cond.instanceMethod yX11_bring ∈ lw_tbl := mem_tables_1_8 (List.mem_of_getElem? (i := 214) rfl)
theorem q2028 : Cond.selects RX11 yX11_bring yX11_bring ∈ lw_tbl := mem_tables_1_8 (List.mem_of_getElem? (i := 215) rfl)
theorem q2029 : Cond.code yX11_bring cX11_bring 2 (some .int) ∈ lw_tbl := mem_tables_1_8 (List.mem_of_getElem? (i := 216) rfl)
theorem q2030 : Cond.methodLink RL 213 yX11_hold ∈ lw_tbl := mem_tables_1_8 (List.mem_of_getElem? (i := 217) rfl)
theorem q2031 : Cond.instanceMethod yX11_hold ∈ lw_tbl := mem_tables_1_8 (List.mem_of_getElem? (i := 218) rfl)
theorem q2032 : Cond.selects RX11 yX11_hold yX11_hold ∈ lw_tbl := mem_tables_1_8 (List.mem_of_getElem? (i := 219) rfl)
theorem q2033 : Cond.code yX11_hold cX11_hold 2 (some .int) ∈ lw_tbl := mem_tables_1_8 (List.mem_of_getElem? (i := 220) rfl)
theorem q2038 : Cond.methodLink RL 216 yX11_declare ∈ lw_tbl := mem_tables_1_8 (List.mem_of_getElem? (i := 225) rfl)
theorem q2039 : Cond.instanceMethod yX11_declare ∈ lw_tbl := mem_tables_1_8 (List.mem_of_getElem? (i := 226) rfl)
theorem q2040 : Cond.selects RX11 yX11_declare yX11_declare ∈ lw_tbl := mem_tables_1_8 (List.mem_of_getElem? (i := 227) rfl)
theorem q2041 : Cond.code yX11_declare cX11_declare 2 (some .int) ∈ lw_tbl := mem_tables_1_8 (List.mem_of_getElem? (i := 228) rfl)
theorem q2046 : Cond.methodLink RL 219 yX11_follow ∈ lw_tbl := mem_tables_1_8 (List.mem_of_getElem? (i := 233) rfl)
theorem q2047 : Cond.instanceMethod yX11_follow ∈ lw_tbl := mem_tables_1_8 (List.mem_of_getElem? (i := 234) rfl)
theorem q2048 : Cond.selects RX11 yX11_follow yX11_follow ∈ lw_tbl := mem_tables_1_8 (List.mem_of_getElem? (i := 235) rfl)
theorem q2049 : Cond.code yX11_follow cX11_follow 1 (some .int) ∈ lw_tbl := mem_tables_1_8 (List.mem_of_getElem? (i := 236) rfl)
theorem q2050 : Cond.methodLink RL 223 yX11_anew ∈ lw_tbl := mem_tables_1_8 (List.mem_of_getElem? (i := 237) rfl)
theorem q2051 : Cond.instanceMethod yX11_anew ∈ lw_tbl := mem_tables_1_8 (List.mem_of_getElem? (i := 238) rfl)
theorem q2052 : Cond.selects RX11 yX11_anew yX11_anew ∈ lw_tbl := mem_tables_1_8 (List.mem_of_getElem? (i := 239) rfl)
theorem q2053 : Cond.code yX11_anew cX11_anew 3 (some .int) ∈ lw_tbl := mem_tables_1_9 (List.mem_of_getElem? (i := 0) rfl)
theorem q2054 : Cond.methodLink RL 226 yX11_here ∈ lw_tbl := mem_tables_1_9 (List.mem_of_getElem? (i := 1) rfl)
theorem q2055 : Cond.instanceMethod yX11_here ∈ lw_tbl := mem_tables_1_9 (List.mem_of_getElem? (i := 2) rfl)
theorem q2056 : Cond.selects RX11 yX11_here yX11_here ∈ lw_tbl := mem_tables_1_9 (List.mem_of_getElem? (i := 3) rfl)
theorem q2057 : Cond.code yX11_here cX11_here 2 (some .long) ∈ lw_tbl := mem_tables_1_9 (List.mem_of_getElem? (i := 4) rfl)
theorem q2161 : Cond.methodLink RL 297 yX11_blind ∈ lw_tbl := mem_tables_1_9 (List.mem_of_getElem? (i := 108) rfl)
theorem q2162 : Cond.instanceMethod yX11_blind ∈ lw_tbl := mem_tables_1_9 (List.mem_of_getElem? (i := 109) rfl)
theorem q2163 : Cond.selects RX11 yX11_blind yX11_blind ∈ lw_tbl := mem_tables_1_9 (List.mem_of_getElem? (i := 110) rfl)
theorem q2164 : Cond.code yX11_blind cX11_blind 2 (some .long) ∈ lw_tbl := mem_tables_1_9 (List.mem_of_getElem? (i := 111) rfl)
theorem q2165 : Cond.methodLink RL 300 yX11_target ∈ lw_tbl := mem_tables_1_9 (List.mem_of_getElem? (i := 112) rfl)
theorem q2166 : Cond.instanceMethod yX11_target ∈ lw_tbl := mem_tables_1_9 (List.mem_of_getElem? (i := 113) rfl)
theorem q2167 : Cond.selects RX11 yX11_target yX11_target ∈ lw_tbl := mem_tables_1_9 (List.mem_of_getElem? (i := 114) rfl)
theorem q2168 : Cond.code yX11_target cX11_target 4 (some .int) ∈ lw_tbl := mem_tables_1_9 (List.mem_of_getElem? (i := 115) rfl)
theorem q2169 : Cond.methodLink RL 229 yX11_worth ∈ lw_tbl := mem_tables_1_9 (List.mem_of_getElem? (i := 116) rfl)
theorem q2170 : Cond.instanceMethod yX11_worth ∈ lw_tbl := mem_tables_1_9 (List.mem_of_getElem? (i := 117) rfl)
theorem q2171 : Cond.selects RX11 yX11_worth yX11_worth ∈ lw_tbl := mem_tables_1_9 (List.mem_of_getElem? (i := 118) rfl)
theorem q2172 : Cond.code yX11_worth cX11_worth 3 (some .long) ∈ lw_tbl := mem_tables_1_9 (List.mem_of_getElem? (i := 119) rfl)
theorem q2182 : Cond.methodLink RL 232 yX11_evens ∈ lw_tbl := mem_tables_1_9 (List.mem_of_getElem? (i := 129) rfl)
theorem q2183 : Cond.instanceMethod yX11_evens ∈ lw_tbl := mem_tables_1_9 (List.mem_of_getElem? (i := 130) rfl)
theorem q2184 : Cond.selects RX11 yX11_evens yX11_evens ∈ lw_tbl := mem_tables_1_9 (List.mem_of_getElem? (i := 131) rfl)
theorem q2185 : Cond.code yX11_evens cX11_evens 2 (some .long) ∈ lw_tbl := mem_tables_1_9 (List.mem_of_getElem? (i := 132) rfl)
theorem q2191 : Cond.methodLink RL 236 yX11_well ∈ lw_tbl := mem_tables_1_9 (List.mem_of_getElem? (i := 138) rfl)
theorem q2192 : Cond.instanceMethod yX11_well ∈ lw_tbl := mem_tables_1_9 (List.mem_of_getElem? (i := 139) rfl)
theorem q2193 : Cond.selects RX11 yX11_well yX11_well ∈ lw_tbl := mem_tables_1_9 (List.mem_of_getElem? (i := 140) rfl)
theorem q2194 : Cond.code yX11_well cX11_well 5 (some .int) ∈ lw_tbl := mem_tables_1_9 (List.mem_of_getElem? (i := 141) rfl)
theorem q2199 : Cond.methodLink RL 239 yX11_after_ ∈ lw_tbl := mem_tables_1_9 (List.mem_of_getElem? (i := 146) rfl)
theorem q2200 : Cond.instanceMethod yX11_after_ ∈ lw_tbl := mem_tables_1_9 (List.mem_of_getElem? (i := 147) rfl)
theorem q2201 : Cond.selects RX11 yX11_after_ yX11_after_ ∈ lw_tbl := mem_tables_1_9 (List.mem_of_getElem? (i := 148) rfl)
theorem q2202 : Cond.code yX11_after_ cX11_after_ 3 (some .long) ∈ lw_tbl := mem_tables_1_9 (List.mem_of_getElem? (i := 149) rfl)
theorem q2207 : Cond.methodLink RL 243 yX11_turning ∈ lw_tbl := mem_tables_1_9 (List.mem_of_getElem? (i := 154) rfl)
theorem q2208 : Cond.instanceMethod yX11_turning ∈ lw_tbl := mem_tables_1_9 (List.mem_of_getElem? (i := 155) rfl)
theorem q2209 : Cond.selects RX11 yX11_turning yX11_turning ∈ lw_tbl := mem_tables_1_9 (List.mem_of_getElem? (i := 156) rfl)
theorem q2210 : Cond.code yX11_turning cX11_turning 8 (some .int) ∈ lw_tbl := mem_tables_1_9 (List.mem_of_getElem? (i := 157) rfl)
theorem q2211 : Cond.methodLink RL 247 yX11_wins ∈ lw_tbl := mem_tables_1_9 (List.mem_of_getElem? (i := 158) rfl)
theorem q2212 : Cond.instanceMethod yX11_wins ∈ lw_tbl := mem_tables_1_9 (List.mem_of_getElem? (i := 159) rfl)
theorem q2213 : Cond.selects RX11 yX11_wins yX11_wins ∈ lw_tbl := mem_tables_1_9 (List.mem_of_getElem? (i := 160) rfl)
theorem q2214 : Cond.code yX11_wins cX11_wins 7 (some .long) ∈ lw_tbl := mem_tables_1_9 (List.mem_of_getElem? (i := 161) rfl)
theorem q2227 : Cond.methodLink RL 251 yX11_declares ∈ lw_tbl := mem_tables_1_9 (List.mem_of_getElem? (i := 174) rfl)
theorem q2228 : Cond.instanceMethod yX11_declares ∈ lw_tbl := mem_tables_1_9 (List.mem_of_getElem? (i := 175) rfl)
theorem q2229 : Cond.selects RX11 yX11_declares yX11_declares ∈ lw_tbl := mem_tables_1_9 (List.mem_of_getElem? (i := 176) rfl)
theorem q2230 : Cond.code yX11_declares cX11_declares 6 (some .boolean) ∈ lw_tbl := mem_tables_1_9 (List.mem_of_getElem? (i := 177) rfl)
theorem q2235 : Cond.methodLink RL 254 yX11_when ∈ lw_tbl := mem_tables_1_9 (List.mem_of_getElem? (i := 182) rfl)
theorem q2236 : Cond.instanceMethod yX11_when ∈ lw_tbl := mem_tables_1_9 (List.mem_of_getElem? (i := 183) rfl)
theorem q2237 : Cond.selects RX11 yX11_when yX11_when ∈ lw_tbl := mem_tables_1_9 (List.mem_of_getElem? (i := 184) rfl)
theorem q2238 : Cond.code yX11_when cX11_when 4 (some .int) ∈ lw_tbl := mem_tables_1_9 (List.mem_of_getElem? (i := 185) rfl)
theorem q2239 : Cond.methodLink RL 257 yX11_enforces ∈ lw_tbl := mem_tables_1_9 (List.mem_of_getElem? (i := 186) rfl)
theorem q2240 : Cond.instanceMethod yX11_enforces ∈ lw_tbl := mem_tables_1_9 (List.mem_of_getElem? (i := 187) rfl)
theorem q2241 : Cond.selects RX11 yX11_enforces yX11_enforces ∈ lw_tbl := mem_tables_1_9 (List.mem_of_getElem? (i := 188) rfl)
theorem q2242 : Cond.code yX11_enforces cX11_enforces 3 (some .boolean) ∈ lw_tbl := mem_tables_1_9 (List.mem_of_getElem? (i := 189) rfl)
theorem q2243 : Cond.methodLink RL 260 yX11_chased ∈ lw_tbl := mem_tables_1_9 (List.mem_of_getElem? (i := 190) rfl)
theorem q2244 : Cond.instanceMethod yX11_chased ∈ lw_tbl := mem_tables_1_9 (List.mem_of_getElem? (i := 191) rfl)
theorem q2245 : Cond.selects RX11 yX11_chased yX11_chased ∈ lw_tbl := mem_tables_1_9 (List.mem_of_getElem? (i := 192) rfl)
theorem q2246 : Cond.code yX11_chased cX11_chased 3 (some .int) ∈ lw_tbl := mem_tables_1_9 (List.mem_of_getElem? (i := 193) rfl)
theorem q2247 : Cond.methodLink RL 264 yX11_holds ∈ lw_tbl := mem_tables_1_9 (List.mem_of_getElem? (i := 194) rfl)
theorem q2248 : Cond.instanceMethod yX11_holds ∈ lw_tbl := mem_tables_1_9 (List.mem_of_getElem? (i := 195) rfl)
theorem q2249 : Cond.selects RX11 yX11_holds yX11_holds ∈ lw_tbl := mem_tables_1_9 (List.mem_of_getElem? (i := 196) rfl)
theorem q2250 : Cond.code yX11_holds cX11_holds 5 (some .boolean) ∈ lw_tbl := mem_tables_1_9 (List.mem_of_getElem? (i := 197) rfl)
theorem q2251 : Cond.methodLink RL 267 yX11_turnover ∈ lw_tbl := mem_tables_1_9 (List.mem_of_getElem? (i := 198) rfl)
theorem q2252 : Cond.instanceMethod yX11_turnover ∈ lw_tbl := mem_tables_1_9 (List.mem_of_getElem? (i := 199) rfl)
theorem q2253 : Cond.selects RX11 yX11_turnover yX11_turnover ∈ lw_tbl := mem_tables_1_9 (List.mem_of_getElem? (i := 200) rfl)
theorem q2254 : Cond.code yX11_turnover cX11_turnover 4 (some .int) ∈ lw_tbl := mem_tables_1_9 (List.mem_of_getElem? (i := 201) rfl)
theorem q2255 : Cond.methodLink RL 270 yX11_line ∈ lw_tbl := mem_tables_1_9 (List.mem_of_getElem? (i := 202) rfl)
theorem q2256 : Cond.instanceMethod yX11_line ∈ lw_tbl := mem_tables_1_9 (List.mem_of_getElem? (i := 203) rfl)
theorem q2257 : Cond.selects RX11 yX11_line yX11_line ∈ lw_tbl := mem_tables_1_9 (List.mem_of_getElem? (i := 204) rfl)
theorem q2258 : Cond.code yX11_line cX11_line 7 (some .int) ∈ lw_tbl := mem_tables_1_9 (List.mem_of_getElem? (i := 205) rfl)
theorem q2259 : Cond.methodLink RL 273 yX11_cost ∈ lw_tbl := mem_tables_1_9 (List.mem_of_getElem? (i := 206) rfl)
theorem q2260 : Cond.instanceMethod yX11_cost ∈ lw_tbl := mem_tables_1_9 (List.mem_of_getElem? (i := 207) rfl)
theorem q2261 : Cond.selects RX11 yX11_cost yX11_cost ∈ lw_tbl := mem_tables_1_9 (List.mem_of_getElem? (i := 208) rfl)
theorem q2262 : Cond.code yX11_cost cX11_cost 5 (some .long) ∈ lw_tbl := mem_tables_1_9 (List.mem_of_getElem? (i := 209) rfl)
theorem q2271 : Cond.methodLink RL 276 yX11_swing ∈ lw_tbl := mem_tables_1_9 (List.mem_of_getElem? (i := 218) rfl)
theorem q2272 : Cond.instanceMethod yX11_swing ∈ lw_tbl := mem_tables_1_9 (List.mem_of_getElem? (i := 219) rfl)
theorem q2273 : Cond.selects RX11 yX11_swing yX11_swing ∈ lw_tbl := mem_tables_1_9 (List.mem_of_getElem? (i := 220) rfl)
theorem q2274 : Cond.code yX11_swing cX11_swing 4 (some .int) ∈ lw_tbl := mem_tables_1_9 (List.mem_of_getElem? (i := 221) rfl)
theorem q2275 : Cond.methodLink RL 279 yX11_book ∈ lw_tbl := mem_tables_1_9 (List.mem_of_getElem? (i := 222) rfl)
theorem q2276 : Cond.instanceMethod yX11_book ∈ lw_tbl := mem_tables_1_9 (List.mem_of_getElem? (i := 223) rfl)
theorem q2277 : Cond.selects RX11 yX11_book yX11_book ∈ lw_tbl := mem_tables_1_9 (List.mem_of_getElem? (i := 224) rfl)
theorem q2278 : Cond.code yX11_book cX11_book 2 (some .int) ∈ lw_tbl := mem_tables_1_9 (List.mem_of_getElem? (i := 225) rfl)
theorem q2287 : Cond.methodLink RL 303 yX11_streak ∈ lw_tbl := mem_tables_1_9 (List.mem_of_getElem? (i := 234) rfl)
theorem q2288 : Cond.instanceMethod yX11_streak ∈ lw_tbl := mem_tables_1_9 (List.mem_of_getElem? (i := 235) rfl)
theorem q2289 : Cond.selects RX11 yX11_streak yX11_streak ∈ lw_tbl := mem_tables_1_9 (List.mem_of_getElem? (i := 236) rfl)
theorem q2290 : Cond.code yX11_streak cX11_streak 5 (some .int) ∈ lw_tbl := mem_tables_1_9 (List.mem_of_getElem? (i := 237) rfl)
theorem q2291 : Cond.methodLink RL 282 yX11_share ∈ lw_tbl := mem_tables_1_9 (List.mem_of_getElem? (i := 238) rfl)
theorem q2292 : Cond.instanceMethod yX11_share ∈ lw_tbl := mem_tables_1_9 (List.mem_of_getElem? (i := 239) rfl)
theorem q2293 : Cond.selects RX11 yX11_share yX11_share ∈ lw_tbl := mem_tables_1_10 (List.mem_of_getElem? (i := 0) rfl)
theorem q2294 : Cond.code yX11_share cX11_share 3 (some .int) ∈ lw_tbl := mem_tables_1_10 (List.mem_of_getElem? (i := 1) rfl)
theorem q2295 : Cond.methodLink RL 287 yX11_habit ∈ lw_tbl := mem_tables_1_10 (List.mem_of_getElem? (i := 2) rfl)
theorem q2296 : Cond.instanceMethod yX11_habit ∈ lw_tbl := mem_tables_1_10 (List.mem_of_getElem? (i := 3) rfl)
theorem q2297 : Cond.selects RX11 yX11_habit yX11_habit ∈ lw_tbl := mem_tables_1_10 (List.mem_of_getElem? (i := 4) rfl)
theorem q2298 : Cond.code yX11_habit cX11_habit 2 (some .boolean) ∈ lw_tbl := mem_tables_1_10 (List.mem_of_getElem? (i := 5) rfl)
theorem q2299 : Cond.methodLink RL 290 yX11_signs ∈ lw_tbl := mem_tables_1_10 (List.mem_of_getElem? (i := 6) rfl)
theorem q2300 : Cond.instanceMethod yX11_signs ∈ lw_tbl := mem_tables_1_10 (List.mem_of_getElem? (i := 7) rfl)
theorem q2301 : Cond.selects RX11 yX11_signs yX11_signs ∈ lw_tbl := mem_tables_1_10 (List.mem_of_getElem? (i := 8) rfl)
theorem q2302 : Cond.code yX11_signs cX11_signs 5 (some .int) ∈ lw_tbl := mem_tables_1_10 (List.mem_of_getElem? (i := 9) rfl)
theorem q2311 : Cond.methodLink RL 294 yX11_best ∈ lw_tbl := mem_tables_1_10 (List.mem_of_getElem? (i := 18) rfl)
theorem q2312 : Cond.instanceMethod yX11_best ∈ lw_tbl := mem_tables_1_10 (List.mem_of_getElem? (i := 19) rfl)
theorem q2313 : Cond.selects RX11 yX11_best yX11_best ∈ lw_tbl := mem_tables_1_10 (List.mem_of_getElem? (i := 20) rfl)
theorem q2314 : Cond.code yX11_best cX11_best 8 (some .int) ∈ lw_tbl := mem_tables_1_10 (List.mem_of_getElem? (i := 21) rfl)
theorem q2319 : Cond.methodLink RL 310 yX11_form ∈ lw_tbl := mem_tables_1_10 (List.mem_of_getElem? (i := 26) rfl)
theorem q2320 : Cond.instanceMethod yX11_form ∈ lw_tbl := mem_tables_1_10 (List.mem_of_getElem? (i := 27) rfl)
theorem q2321 : Cond.selects RX11 yX11_form yX11_form ∈ lw_tbl := mem_tables_1_10 (List.mem_of_getElem? (i := 28) rfl)
theorem q2322 : Cond.code yX11_form cX11_form 5 (some .int) ∈ lw_tbl := mem_tables_1_10 (List.mem_of_getElem? (i := 29) rfl)
theorem q2327 : Cond.methodLink RL 316 yX11_log ∈ lw_tbl := mem_tables_1_10 (List.mem_of_getElem? (i := 34) rfl)
theorem q2328 : Cond.instanceMethod yX11_log ∈ lw_tbl := mem_tables_1_10 (List.mem_of_getElem? (i := 35) rfl)
theorem q2329 : Cond.selects RX11 yX11_log yX11_log ∈ lw_tbl := mem_tables_1_10 (List.mem_of_getElem? (i := 36) rfl)
theorem q2330 : Cond.code yX11_log cX11_log 3 (some .int) ∈ lw_tbl := mem_tables_1_10 (List.mem_of_getElem? (i := 37) rfl)
theorem q2331 : Cond.methodLink RL 320 yX11_seed ∈ lw_tbl := mem_tables_1_10 (List.mem_of_getElem? (i := 38) rfl)
theorem q2332 : Cond.instanceMethod yX11_seed ∈ lw_tbl := mem_tables_1_10 (List.mem_of_getElem? (i := 39) rfl)
theorem q2333 : Cond.selects RX11 yX11_seed yX11_seed ∈ lw_tbl := mem_tables_1_10 (List.mem_of_getElem? (i := 40) rfl)
theorem q2334 : Cond.code yX11_seed cX11_seed 3 (some .int) ∈ lw_tbl := mem_tables_1_10 (List.mem_of_getElem? (i := 41) rfl)
theorem q2335 : Cond.methodLink RL 337 yX11_count ∈ lw_tbl := mem_tables_1_10 (List.mem_of_getElem? (i := 42) rfl)
theorem q2336 : Cond.instanceMethod yX11_count ∈ lw_tbl := mem_tables_1_10 (List.mem_of_getElem? (i := 43) rfl)
theorem q2337 : Cond.selects RX11 yX11_count yX11_count ∈ lw_tbl := mem_tables_1_10 (List.mem_of_getElem? (i := 44) rfl)
theorem q2338 : Cond.code yX11_count cX11_count 2 (some .int) ∈ lw_tbl := mem_tables_1_10 (List.mem_of_getElem? (i := 45) rfl)
section LNK3
variable {G : GG} {mr : MR} {n : Nat} {mem mem' : Mem} {p : Program} {l : Launch} {e : Env} {R : Room} {d : Nat} {s : State} {mid : MethodId} {args : Array Value} {below : List Frame} {meth : Method} {c : Code} {H : Heap} {locs : List Loc} {cells slots : Nat} {Q : State → Prop} {cc : ByteArray} {nL : Nat} {own : String} {pc : Nat} {ls : Array Slot} {rest : List Value}
theorem wL_172 : WV RL 172 RX11 yX11_thrown cX11_thrown 1 (some .int) 0 := ⟨⟨(gd q1633 rfl), (gd q145 rfl), (gd q1636 rfl), by decide, by decide, by decide +kernel⟩, (gd q1634 rfl), (gd q1635 rfl)⟩
theorem wL_156 : WV RL 156 RX10 yX10_feed cX10_feed 6 (some .int) 5 := ⟨⟨(gd q509 rfl), (gd q134 rfl), (gd q512 rfl), by decide, by decide, by decide +kernel⟩, (gd q510 rfl), (gd q511 rfl)⟩
theorem wL_160 : WV RL 160 RX11 yX11_feed cX11_feed 7 (some .int) 5 := ⟨⟨(gd q1738 rfl), (gd q145 rfl), (gd q1741 rfl), by decide, by decide, by decide +kernel⟩, (gd q1739 rfl), (gd q1740 rfl)⟩
theorem wL_161 : WV RL 161 RX10 yX10_end cX10_end 2 (some .boolean) 1 := ⟨⟨(gd q517 rfl), (gd q134 rfl), (gd q520 rfl), by decide, by decide, by decide +kernel⟩, (gd q518 rfl), (gd q519 rfl)⟩
theorem wL_165 : WV RL 165 RX11 yX11_end cX11_end 2 (some .boolean) 1 := ⟨⟨(gd q1742 rfl), (gd q145 rfl), (gd q1745 rfl), by decide, by decide, by decide +kernel⟩, (gd q1743 rfl), (gd q1744 rfl)⟩
theorem wS_166 : WSW RL 166 yL_ground cL_ground 3 [(0, 8, 11, 13), (0, 8, 14, 15)] 2 := ⟨(gd q778 rfl), (gd q779 rfl), (gd q133 rfl), (gd q780 rfl), by decide, by decide, by decide +kernel⟩
theorem wL_171 : WV RL 171 RX11 yX11_ground cX11_ground 3 (some .int) 0 := ⟨⟨(gd q1750 rfl), (gd q145 rfl), (gd q1753 rfl), by decide, by decide, by decide +kernel⟩, (gd q1751 rfl), (gd q1752 rfl)⟩
theorem wS_175 : WSW RL 175 yL_law cL_law 3 [(0, 8, 11, 13)] 2 := ⟨(gd q1108 rfl), (gd q1109 rfl), (gd q133 rfl), (gd q1110 rfl), by decide, by decide, by decide +kernel⟩
theorem wL_177 : WV RL 177 RX11 yX11_law cX11_law 3 (some .int) 0 := ⟨⟨(gd q1885 rfl), (gd q145 rfl), (gd q1888 rfl), by decide, by decide, by decide +kernel⟩, (gd q1886 rfl), (gd q1887 rfl)⟩
theorem wL_178 : WV RL 178 RX10 yX10_fault cX10_fault 1 (some .int) 0 := ⟨⟨(gd q521 rfl), (gd q134 rfl), (gd q524 rfl), by decide, by decide, by decide +kernel⟩, (gd q522 rfl), (gd q523 rfl)⟩
theorem wL_181 : WV RL 181 RX11 yX11_fault cX11_fault 1 (some .int) 0 := ⟨⟨(gd q1746 rfl), (gd q145 rfl), (gd q1749 rfl), by decide, by decide, by decide +kernel⟩, (gd q1747 rfl), (gd q1748 rfl)⟩
theorem wS_182 : WSW RL 182 yL_side cL_side 5 [(0, 10, 13, 24)] 4 := ⟨(gd q1123 rfl), (gd q1124 rfl), (gd q133 rfl), (gd q1125 rfl), by decide, by decide, by decide +kernel⟩
theorem wL_185 : WV RL 185 RX11 yX11_side cX11_side 3 (some .int) 2 := ⟨⟨(gd q1889 rfl), (gd q145 rfl), (gd q1892 rfl), by decide, by decide, by decide +kernel⟩, (gd q1890 rfl), (gd q1891 rfl)⟩
theorem wS_186 : WSW RL 186 yL_slot cL_slot 6 [(0, 12, 15, 24)] 5 := ⟨(gd q1153 rfl), (gd q1154 rfl), (gd q133 rfl), (gd q1155 rfl), by decide, by decide, by decide +kernel⟩
theorem wL_189 : WV RL 189 RX11 yX11_slot cX11_slot 4 (some .int) 3 := ⟨⟨(gd q1899 rfl), (gd q145 rfl), (gd q1902 rfl), by decide, by decide, by decide +kernel⟩, (gd q1900 rfl), (gd q1901 rfl)⟩
theorem wS_190 : WSW RL 190 yL_session cL_session 5 [(0, 10, 13, 24), (0, 10, 17, 34)] 4 := ⟨(gd q1162 rfl), (gd q1163 rfl), (gd q133 rfl), (gd q1164 rfl), by decide, by decide, by decide +kernel⟩
theorem wL_193 : WV RL 193 RX11 yX11_session cX11_session 3 (some .int) 2 := ⟨⟨(gd q1910 rfl), (gd q145 rfl), (gd q1913 rfl), by decide, by decide, by decide +kernel⟩, (gd q1911 rfl), (gd q1912 rfl)⟩
theorem wS_194 : WSW RL 194 yL_level cL_level 6 [(0, 12, 15, 24)] 5 := ⟨(gd q1187 rfl), (gd q1188 rfl), (gd q133 rfl), (gd q1189 rfl), by decide, by decide, by decide +kernel⟩
theorem wL_197 : WV RL 197 RX11 yX11_level cX11_level 4 (some .int) 3 := ⟨⟨(gd q1922 rfl), (gd q145 rfl), (gd q1925 rfl), by decide, by decide, by decide +kernel⟩, (gd q1923 rfl), (gd q1924 rfl)⟩
theorem wS_198 : WSW RL 198 yL_match cL_match 4 [(0, 9, 12, 34)] 3 := ⟨(gd q1195 rfl), (gd q1196 rfl), (gd q133 rfl), (gd q1197 rfl), by decide, by decide, by decide +kernel⟩
theorem wL_201 : WV RL 201 RX11 yX11_match cX11_match 2 (some .int) 1 := ⟨⟨(gd q1957 rfl), (gd q145 rfl), (gd q1960 rfl), by decide, by decide, by decide +kernel⟩, (gd q1958 rfl), (gd q1959 rfl)⟩
theorem wS_202 : WSW RL 202 yL_toss cL_toss 4 [(0, 9, 12, 24), (0, 9, 15, 47)] 3 := ⟨(gd q1231 rfl), (gd q1232 rfl), (gd q133 rfl), (gd q1233 rfl), by decide, by decide, by decide +kernel⟩
theorem wL_204 : WV RL 204 RX11 yX11_toss cX11_toss 2 (some .int) 1 := ⟨⟨(gd q1996 rfl), (gd q145 rfl), (gd q1999 rfl), by decide, by decide, by decide +kernel⟩, (gd q1997 rfl), (gd q1998 rfl)⟩
theorem wS_205 : WSW RL 205 yL_play cL_play 3 [(0, 8, 11, 47)] 2 := ⟨(gd q1259 rfl), (gd q1260 rfl), (gd q133 rfl), (gd q1261 rfl), by decide, by decide, by decide +kernel⟩
theorem wL_207 : WV RL 207 RX11 yX11_play cX11_play 2 (some .int) 0 := ⟨⟨(gd q2004 rfl), (gd q145 rfl), (gd q2007 rfl), by decide, by decide, by decide +kernel⟩, (gd q2005 rfl), (gd q2006 rfl)⟩
theorem wS_208 : WSW RL 208 yL_bring cL_bring 4 [(0, 9, 12, 24), (0, 9, 15, 47)] 3 := ⟨(gd q1298 rfl), (gd q1299 rfl), (gd q133 rfl), (gd q1300 rfl), by decide, by decide, by decide +kernel⟩
theorem wL_210 : WV RL 210 RX11 yX11_bring cX11_bring 2 (some .int) 1 := ⟨⟨(gd q2026 rfl), (gd q145 rfl), (gd q2029 rfl), by decide, by decide, by decide +kernel⟩, (gd q2027 rfl), (gd q2028 rfl)⟩
theorem wS_211 : WSW RL 211 yL_hold cL_hold 4 [(0, 9, 12, 24), (0, 9, 15, 47)] 3 := ⟨(gd q1306 rfl), (gd q1307 rfl), (gd q133 rfl), (gd q1308 rfl), by decide, by decide, by decide +kernel⟩
theorem wL_213 : WV RL 213 RX11 yX11_hold cX11_hold 2 (some .int) 1 := ⟨⟨(gd q2030 rfl), (gd q145 rfl), (gd q2033 rfl), by decide, by decide, by decide +kernel⟩, (gd q2031 rfl), (gd q2032 rfl)⟩
theorem wS_214 : WSW RL 214 yL_declare cL_declare 3 [(0, 8, 11, 47)] 2 := ⟨(gd q1318 rfl), (gd q1319 rfl), (gd q133 rfl), (gd q1320 rfl), by decide, by decide, by decide +kernel⟩
theorem wL_216 : WV RL 216 RX11 yX11_declare cX11_declare 2 (some .int) 0 := ⟨⟨(gd q2038 rfl), (gd q145 rfl), (gd q2041 rfl), by decide, by decide, by decide +kernel⟩, (gd q2039 rfl), (gd q2040 rfl)⟩
theorem wS_217 : WSW RL 217 yL_follow cL_follow 3 [(0, 8, 11, 47)] 2 := ⟨(gd q1334 rfl), (gd q1335 rfl), (gd q133 rfl), (gd q1336 rfl), by decide, by decide, by decide +kernel⟩
theorem wL_219 : WV RL 219 RX11 yX11_follow cX11_follow 1 (some .int) 0 := ⟨⟨(gd q2046 rfl), (gd q145 rfl), (gd q2049 rfl), by decide, by decide, by decide +kernel⟩, (gd q2047 rfl), (gd q2048 rfl)⟩
theorem wL_220 : WV RL 220 RX10 yX10_anew cX10_anew 2 (some .int) 0 := ⟨⟨(gd q529 rfl), (gd q134 rfl), (gd q532 rfl), by decide, by decide, by decide +kernel⟩, (gd q530 rfl), (gd q531 rfl)⟩
theorem wL_223 : WV RL 223 RX11 yX11_anew cX11_anew 3 (some .int) 0 := ⟨⟨(gd q2050 rfl), (gd q145 rfl), (gd q2053 rfl), by decide, by decide, by decide +kernel⟩, (gd q2051 rfl), (gd q2052 rfl)⟩
theorem wS_224 : WSW RL 224 yL_here cL_here 4 [(0, 8, 11, 47), (0, 8, 14, 34)] 3 := ⟨(gd q1342 rfl), (gd q1343 rfl), (gd q133 rfl), (gd q1344 rfl), by decide, by decide, by decide +kernel⟩
theorem wL_226 : WV RL 226 RX11 yX11_here cX11_here 2 (some .long) 1 := ⟨⟨(gd q2054 rfl), (gd q145 rfl), (gd q2057 rfl), by decide, by decide, by decide +kernel⟩, (gd q2055 rfl), (gd q2056 rfl)⟩
theorem wS_227 : WSW RL 227 yL_worth cL_worth 5 [(0, 9, 12, 24), (0, 9, 16, 34)] 4 := ⟨(gd q1369 rfl), (gd q1370 rfl), (gd q133 rfl), (gd q1371 rfl), by decide, by decide, by decide +kernel⟩
theorem wL_229 : WV RL 229 RX11 yX11_worth cX11_worth 3 (some .long) 2 := ⟨⟨(gd q2169 rfl), (gd q145 rfl), (gd q2172 rfl), by decide, by decide, by decide +kernel⟩, (gd q2170 rfl), (gd q2171 rfl)⟩
theorem wS_230 : WSW RL 230 yL_evens cL_evens 4 [(0, 8, 11, 24)] 3 := ⟨(gd q1383 rfl), (gd q1384 rfl), (gd q133 rfl), (gd q1385 rfl), by decide, by decide, by decide +kernel⟩
theorem wL_232 : WV RL 232 RX11 yX11_evens cX11_evens 2 (some .long) 1 := ⟨⟨(gd q2182 rfl), (gd q145 rfl), (gd q2185 rfl), by decide, by decide, by decide +kernel⟩, (gd q2183 rfl), (gd q2184 rfl)⟩
theorem wL_233 : WV RL 233 RX10 yX10_well cX10_well 8 (some .int) 0 := ⟨⟨(gd q601 rfl), (gd q134 rfl), (gd q604 rfl), by decide, by decide, by decide +kernel⟩, (gd q602 rfl), (gd q603 rfl)⟩
theorem wL_236 : WV RL 236 RX11 yX11_well cX11_well 5 (some .int) 0 := ⟨⟨(gd q2191 rfl), (gd q145 rfl), (gd q2194 rfl), by decide, by decide, by decide +kernel⟩, (gd q2192 rfl), (gd q2193 rfl)⟩
theorem wS_237 : WSW RL 237 yL_after cL_after 5 [(0, 9, 12, 24), (0, 9, 16, 47), (0, 9, 20, 34)] 4 := ⟨(gd q1393 rfl), (gd q1394 rfl), (gd q133 rfl), (gd q1395 rfl), by decide, by decide, by decide +kernel⟩
theorem wL_239 : WV RL 239 RX11 yX11_after_ cX11_after_ 3 (some .long) 2 := ⟨⟨(gd q2199 rfl), (gd q145 rfl), (gd q2202 rfl), by decide, by decide, by decide +kernel⟩, (gd q2200 rfl), (gd q2201 rfl)⟩
theorem wS_240 : WSW RL 240 yL_turning cL_turning 4 [(0, 9, 12, 47)] 3 := ⟨(gd q1408 rfl), (gd q1409 rfl), (gd q133 rfl), (gd q1410 rfl), by decide, by decide, by decide +kernel⟩
theorem wL_243 : WV RL 243 RX11 yX11_turning cX11_turning 8 (some .int) 1 := ⟨⟨(gd q2207 rfl), (gd q145 rfl), (gd q2210 rfl), by decide, by decide, by decide +kernel⟩, (gd q2208 rfl), (gd q2209 rfl)⟩
theorem wS_244 : WSW RL 244 yL_wins cL_wins 9 [(0, 17, 20, 24), (0, 17, 24, 13), (0, 17, 28, 34)] 8 := ⟨(gd q1415 rfl), (gd q1416 rfl), (gd q133 rfl), (gd q1417 rfl), by decide, by decide, by decide +kernel⟩
theorem wL_247 : WV RL 247 RX11 yX11_wins cX11_wins 7 (some .long) 6 := ⟨⟨(gd q2211 rfl), (gd q145 rfl), (gd q2214 rfl), by decide, by decide, by decide +kernel⟩, (gd q2212 rfl), (gd q2213 rfl)⟩
theorem wS_248 : WSW RL 248 yL_declares cL_declares 8 [(0, 23, 26, 24), (0, 23, 30, 13)] 7 := ⟨(gd q1434 rfl), (gd q1435 rfl), (gd q133 rfl), (gd q1436 rfl), by decide, by decide, by decide +kernel⟩
theorem wL_251 : WV RL 251 RX11 yX11_declares cX11_declares 6 (some .boolean) 5 := ⟨⟨(gd q2227 rfl), (gd q145 rfl), (gd q2230 rfl), by decide, by decide, by decide +kernel⟩, (gd q2228 rfl), (gd q2229 rfl)⟩
theorem wS_252 : WSW RL 252 yL_when cL_when 5 [(0, 10, 13, 24), (0, 10, 17, 13)] 4 := ⟨(gd q1449 rfl), (gd q1450 rfl), (gd q133 rfl), (gd q1451 rfl), by decide, by decide, by decide +kernel⟩
theorem wL_254 : WV RL 254 RX11 yX11_when cX11_when 4 (some .int) 2 := ⟨⟨(gd q2235 rfl), (gd q145 rfl), (gd q2238 rfl), by decide, by decide, by decide +kernel⟩, (gd q2236 rfl), (gd q2237 rfl)⟩
theorem wS_255 : WSW RL 255 yL_enforces cL_enforces 5 [(0, 17, 20, 24), (0, 17, 24, 13)] 4 := ⟨(gd q1456 rfl), (gd q1457 rfl), (gd q133 rfl), (gd q1458 rfl), by decide, by decide, by decide +kernel⟩
theorem wL_257 : WV RL 257 RX11 yX11_enforces cX11_enforces 3 (some .boolean) 2 := ⟨⟨(gd q2239 rfl), (gd q145 rfl), (gd q2242 rfl), by decide, by decide, by decide +kernel⟩, (gd q2240 rfl), (gd q2241 rfl)⟩
theorem wS_258 : WSW RL 258 yL_chased cL_chased 4 [(0, 9, 12, 24)] 3 := ⟨(gd q1464 rfl), (gd q1465 rfl), (gd q133 rfl), (gd q1466 rfl), by decide, by decide, by decide +kernel⟩
theorem wL_260 : WV RL 260 RX11 yX11_chased cX11_chased 3 (some .int) 1 := ⟨⟨(gd q2243 rfl), (gd q145 rfl), (gd q2246 rfl), by decide, by decide, by decide +kernel⟩, (gd q2244 rfl), (gd q2245 rfl)⟩
theorem wS_261 : WSW RL 261 yL_holds cL_holds 7 [(0, 21, 24, 24), (0, 21, 28, 13)] 6 := ⟨(gd q1471 rfl), (gd q1472 rfl), (gd q133 rfl), (gd q1473 rfl), by decide, by decide, by decide +kernel⟩
theorem wL_264 : WV RL 264 RX11 yX11_holds cX11_holds 5 (some .boolean) 4 := ⟨⟨(gd q2247 rfl), (gd q145 rfl), (gd q2250 rfl), by decide, by decide, by decide +kernel⟩, (gd q2248 rfl), (gd q2249 rfl)⟩
theorem wS_265 : WSW RL 265 yL_turnover cL_turnover 5 [(0, 10, 13, 24), (0, 10, 17, 13)] 4 := ⟨(gd q1478 rfl), (gd q1479 rfl), (gd q133 rfl), (gd q1480 rfl), by decide, by decide, by decide +kernel⟩
theorem wL_267 : WV RL 267 RX11 yX11_turnover cX11_turnover 4 (some .int) 2 := ⟨⟨(gd q2251 rfl), (gd q145 rfl), (gd q2254 rfl), by decide, by decide, by decide +kernel⟩, (gd q2252 rfl), (gd q2253 rfl)⟩
theorem wS_268 : WSW RL 268 yL_line cL_line 8 [(0, 16, 19, 24), (0, 16, 23, 13)] 7 := ⟨(gd q1485 rfl), (gd q1486 rfl), (gd q133 rfl), (gd q1487 rfl), by decide, by decide, by decide +kernel⟩
theorem wL_270 : WV RL 270 RX11 yX11_line cX11_line 7 (some .int) 5 := ⟨⟨(gd q2255 rfl), (gd q145 rfl), (gd q2258 rfl), by decide, by decide, by decide +kernel⟩, (gd q2256 rfl), (gd q2257 rfl)⟩
theorem wS_271 : WSW RL 271 yL_cost cL_cost 4 [(0, 8, 11, 13), (0, 8, 14, 47)] 3 := ⟨(gd q1492 rfl), (gd q1493 rfl), (gd q133 rfl), (gd q1494 rfl), by decide, by decide, by decide +kernel⟩
theorem wL_273 : WV RL 273 RX11 yX11_cost cX11_cost 5 (some .long) 1 := ⟨⟨(gd q2259 rfl), (gd q145 rfl), (gd q2262 rfl), by decide, by decide, by decide +kernel⟩, (gd q2260 rfl), (gd q2261 rfl)⟩
theorem wS_274 : WSW RL 274 yL_swing cL_swing 3 [(0, 8, 11, 47), (0, 8, 14, 13)] 2 := ⟨(gd q1506 rfl), (gd q1507 rfl), (gd q133 rfl), (gd q1508 rfl), by decide, by decide, by decide +kernel⟩
theorem wL_276 : WV RL 276 RX11 yX11_swing cX11_swing 4 (some .int) 0 := ⟨⟨(gd q2271 rfl), (gd q145 rfl), (gd q2274 rfl), by decide, by decide, by decide +kernel⟩, (gd q2272 rfl), (gd q2273 rfl)⟩
theorem wS_277 : WSW RL 277 yL_book cL_book 4 [(0, 9, 12, 34)] 3 := ⟨(gd q1518 rfl), (gd q1519 rfl), (gd q133 rfl), (gd q1520 rfl), by decide, by decide, by decide +kernel⟩
theorem wL_279 : WV RL 279 RX11 yX11_book cX11_book 2 (some .int) 1 := ⟨⟨(gd q2275 rfl), (gd q145 rfl), (gd q2278 rfl), by decide, by decide, by decide +kernel⟩, (gd q2276 rfl), (gd q2277 rfl)⟩
theorem wS_280 : WSW RL 280 yL_share cL_share 5 [(0, 10, 13, 34)] 4 := ⟨(gd q1525 rfl), (gd q1526 rfl), (gd q133 rfl), (gd q1527 rfl), by decide, by decide, by decide +kernel⟩
theorem wL_282 : WV RL 282 RX11 yX11_share cX11_share 3 (some .int) 2 := ⟨⟨(gd q2291 rfl), (gd q145 rfl), (gd q2294 rfl), by decide, by decide, by decide +kernel⟩, (gd q2292 rfl), (gd q2293 rfl)⟩
theorem wL_283 : WV RL 283 RX10 yX10_habit cX10_habit 4 (some .boolean) 1 := ⟨⟨(gd q765 rfl), (gd q134 rfl), (gd q768 rfl), by decide, by decide, by decide +kernel⟩, (gd q766 rfl), (gd q767 rfl)⟩
theorem wL_287 : WV RL 287 RX11 yX11_habit cX11_habit 2 (some .boolean) 1 := ⟨⟨(gd q2295 rfl), (gd q145 rfl), (gd q2298 rfl), by decide, by decide, by decide +kernel⟩, (gd q2296 rfl), (gd q2297 rfl)⟩
theorem wS_288 : WSW RL 288 yL_signs cL_signs 6 [(0, 12, 15, 13)] 5 := ⟨(gd q1532 rfl), (gd q1533 rfl), (gd q133 rfl), (gd q1534 rfl), by decide, by decide, by decide +kernel⟩
theorem wL_290 : WV RL 290 RX11 yX11_signs cX11_signs 5 (some .int) 3 := ⟨⟨(gd q2299 rfl), (gd q145 rfl), (gd q2302 rfl), by decide, by decide, by decide +kernel⟩, (gd q2300 rfl), (gd q2301 rfl)⟩
theorem wS_291 : WSW RL 291 yL_best cL_best 5 [(0, 10, 13, 13)] 4 := ⟨(gd q1559 rfl), (gd q1560 rfl), (gd q133 rfl), (gd q1561 rfl), by decide, by decide, by decide +kernel⟩
theorem wL_294 : WV RL 294 RX11 yX11_best cX11_best 8 (some .int) 2 := ⟨⟨(gd q2311 rfl), (gd q145 rfl), (gd q2314 rfl), by decide, by decide, by decide +kernel⟩, (gd q2312 rfl), (gd q2313 rfl)⟩
theorem wS_295 : WSW RL 295 yL_blind cL_blind 4 [(0, 8, 11, 47), (0, 8, 14, 34)] 3 := ⟨(gd q1572 rfl), (gd q1573 rfl), (gd q133 rfl), (gd q1574 rfl), by decide, by decide, by decide +kernel⟩
theorem wL_297 : WV RL 297 RX11 yX11_blind cX11_blind 2 (some .long) 1 := ⟨⟨(gd q2161 rfl), (gd q145 rfl), (gd q2164 rfl), by decide, by decide, by decide +kernel⟩, (gd q2162 rfl), (gd q2163 rfl)⟩
theorem wS_298 : WSW RL 298 yL_target cL_target 4 [(0, 9, 12, 47)] 3 := ⟨(gd q1579 rfl), (gd q1580 rfl), (gd q133 rfl), (gd q1581 rfl), by decide, by decide, by decide +kernel⟩
theorem wL_300 : WV RL 300 RX11 yX11_target cX11_target 4 (some .int) 1 := ⟨⟨(gd q2165 rfl), (gd q145 rfl), (gd q2168 rfl), by decide, by decide, by decide +kernel⟩, (gd q2166 rfl), (gd q2167 rfl)⟩
theorem wS_301 : WSW RL 301 yL_streak cL_streak 4 [(0, 9, 12, 34)] 3 := ⟨(gd q1586 rfl), (gd q1587 rfl), (gd q133 rfl), (gd q1588 rfl), by decide, by decide, by decide +kernel⟩
theorem wL_303 : WV RL 303 RX11 yX11_streak cX11_streak 5 (some .int) 1 := ⟨⟨(gd q2287 rfl), (gd q145 rfl), (gd q2290 rfl), by decide, by decide, by decide +kernel⟩, (gd q2288 rfl), (gd q2289 rfl)⟩
theorem wS_304 : WSW RL 304 yL_table cL_table 7 [(0, 14, 17, 24)] 6 := ⟨(gd q1598 rfl), (gd q1599 rfl), (gd q133 rfl), (gd q1600 rfl), by decide, by decide, by decide +kernel⟩
theorem wL_307 : WV RL 307 RX11 yX11_table cX11_table 8 (some .int) 4 := ⟨⟨(gd q1946 rfl), (gd q145 rfl), (gd q1949 rfl), by decide, by decide, by decide +kernel⟩, (gd q1947 rfl), (gd q1948 rfl)⟩
theorem wS_308 : WSW RL 308 yL_form cL_form 5 [(0, 10, 13, 24), (0, 10, 17, 13)] 4 := ⟨(gd q1607 rfl), (gd q1608 rfl), (gd q133 rfl), (gd q1609 rfl), by decide, by decide, by decide +kernel⟩
theorem wL_310 : WV RL 310 RX11 yX11_form cX11_form 5 (some .int) 2 := ⟨⟨(gd q2319 rfl), (gd q145 rfl), (gd q2322 rfl), by decide, by decide, by decide +kernel⟩, (gd q2320 rfl), (gd q2321 rfl)⟩
theorem wS_311 : WSW RL 311 yL_hardest cL_hardest 5 [(0, 10, 13, 24)] 4 := ⟨(gd q1619 rfl), (gd q1620 rfl), (gd q133 rfl), (gd q1621 rfl), by decide, by decide, by decide +kernel⟩
theorem wL_313 : WV RL 313 RX11 yX11_hardest cX11_hardest 5 (some .int) 2 := ⟨⟨(gd q1942 rfl), (gd q145 rfl), (gd q1945 rfl), by decide, by decide, by decide +kernel⟩, (gd q1943 rfl), (gd q1944 rfl)⟩
theorem wS_314 : WSW RL 314 yL_log cL_log 5 [(0, 10, 13, 34)] 4 := ⟨(gd q1626 rfl), (gd q1627 rfl), (gd q133 rfl), (gd q1628 rfl), by decide, by decide, by decide +kernel⟩
theorem wL_316 : WV RL 316 RX11 yX11_log cX11_log 3 (some .int) 2 := ⟨⟨(gd q2327 rfl), (gd q145 rfl), (gd q2330 rfl), by decide, by decide, by decide +kernel⟩, (gd q2328 rfl), (gd q2329 rfl)⟩
theorem wL_317 : WV RL 317 RX10 yX10_seed cX10_seed 3 (some .int) 1 := ⟨⟨(gd q552 rfl), (gd q134 rfl), (gd q555 rfl), by decide, by decide, by decide +kernel⟩, (gd q553 rfl), (gd q554 rfl)⟩
theorem wL_320 : WV RL 320 RX11 yX11_seed cX11_seed 3 (some .int) 1 := ⟨⟨(gd q2331 rfl), (gd q145 rfl), (gd q2334 rfl), by decide, by decide, by decide +kernel⟩, (gd q2332 rfl), (gd q2333 rfl)⟩
theorem wL_321 : WV RL 321 RX10 yX10_undo cX10_undo 1 (some .boolean) 0 := ⟨⟨(gd q556 rfl), (gd q134 rfl), (gd q559 rfl), by decide, by decide, by decide +kernel⟩, (gd q557 rfl), (gd q558 rfl)⟩
theorem wL_325 : WV RL 325 RX11 yX11_undo cX11_undo 2 (some .boolean) 0 := ⟨⟨(gd q1734 rfl), (gd q145 rfl), (gd q1737 rfl), by decide, by decide, by decide +kernel⟩, (gd q1735 rfl), (gd q1736 rfl)⟩
theorem wL_326 : WV RL 326 RX10 yX10_image cX10_image 1 none 0 := ⟨⟨(gd q564 rfl), (gd q134 rfl), (gd q567 rfl), by decide, by decide, by decide +kernel⟩, (gd q565 rfl), (gd q566 rfl)⟩
theorem wL_329 : WV RL 329 RX11 yX11_image cX11_image 2 none 0 := ⟨⟨(gd q1726 rfl), (gd q145 rfl), (gd q1729 rfl), by decide, by decide, by decide +kernel⟩, (gd q1727 rfl), (gd q1728 rfl)⟩
theorem wL_330 : WV RL 330 RX10 yX10_back cX10_back 1 (some .boolean) 0 := ⟨⟨(gd q581 rfl), (gd q134 rfl), (gd q584 rfl), by decide, by decide, by decide +kernel⟩, (gd q582 rfl), (gd q583 rfl)⟩
theorem wL_333 : WV RL 333 RX11 yX11_back cX11_back 2 (some .boolean) 0 := ⟨⟨(gd q1730 rfl), (gd q145 rfl), (gd q1733 rfl), by decide, by decide, by decide +kernel⟩, (gd q1731 rfl), (gd q1732 rfl)⟩
theorem wL_334 : WV RL 334 RX10 yX10_count cX10_count 2 (some .int) 1 := ⟨⟨(gd q525 rfl), (gd q134 rfl), (gd q528 rfl), by decide, by decide, by decide +kernel⟩, (gd q526 rfl), (gd q527 rfl)⟩
theorem wL_337 : WV RL 337 RX11 yX11_count cX11_count 2 (some .int) 1 := ⟨⟨(gd q2335 rfl), (gd q145 rfl), (gd q2338 rfl), by decide, by decide, by decide +kernel⟩, (gd q2336 rfl), (gd q2337 rfl)⟩
end LNK3
