theorem q_h1234 : Cond.classLink RX11 141 "java/lang/IndexOutOfBoundsException" ∈ q_al := q_ali 1234 (by decide +kernel) (by decide +kernel)
theorem q_h159 : Cond.initialized "java/lang/IndexOutOfBoundsException" ∈ q_al := q_ali 159 (by decide +kernel) (by decide +kernel)
theorem q_h533 : Cond.fieldLink RX11 54 (TX11 6).1 (TX11 6).2.1 (TX11 6).2.2.1 ∈ q_al := q_ali 533 (by decide +kernel) (by decide +kernel)
theorem q_h537 : Cond.laysFinal RX11 (TX11 0).1 (TX11 0).2.1 (TX11 0).2.2.1 ∈ q_al := q_ali 537 (by decide +kernel) (by decide +kernel)
theorem q_h539 : Cond.laysFinal RX11 (TX11 1).1 (TX11 1).2.1 (TX11 1).2.2.1 ∈ q_al := q_ali 539 (by decide +kernel) (by decide +kernel)
theorem q_h541 : Cond.laysFinal RX11 (TX11 2).1 (TX11 2).2.1 (TX11 2).2.2.1 ∈ q_al := q_ali 541 (by decide +kernel) (by decide +kernel)
theorem q_h543 : Cond.laysFinal RX11 (TX11 3).1 (TX11 3).2.1 (TX11 3).2.2.1 ∈ q_al := q_ali 543 (by decide +kernel) (by decide +kernel)
theorem q_h545 : Cond.laysFinal RX11 (TX11 4).1 (TX11 4).2.1 (TX11 4).2.2.1 ∈ q_al := q_ali 545 (by decide +kernel) (by decide +kernel)
theorem q_h547 : Cond.laysFinal RX11 (TX11 5).1 (TX11 5).2.1 (TX11 5).2.2.1 ∈ q_al := q_ali 547 (by decide +kernel) (by decide +kernel)
theorem q_h549 : Cond.laysFinal RX11 (TX11 6).1 (TX11 6).2.1 (TX11 6).2.2.1 ∈ q_al := q_ali 549 (by decide +kernel) (by decide +kernel)
theorem q_h551 : Cond.laysFinal RX11 (TX11 7).1 (TX11 7).2.1 (TX11 7).2.2.1 ∈ q_al := q_ali 551 (by decide +kernel) (by decide +kernel)
theorem q_h553 : Cond.laysFinal RX11 (TX11 8).1 (TX11 8).2.1 (TX11 8).2.2.1 ∈ q_al := q_ali 553 (by decide +kernel) (by decide +kernel)
theorem q_h555 : Cond.lays RX11 (TX11 9).1 (TX11 9).2.1 (TX11 9).2.2.1 ∈ q_al := q_ali 555 (by decide +kernel) (by decide +kernel)
theorem q_inX11 : ∀ w ∈ u_ws RX11 TX11 10, w ∈ q_al := q_cons q_h537 (q_cons q_h539 (q_cons q_h541 (q_cons q_h543 (q_cons q_h545 (q_cons q_h547 (q_cons q_h549 (q_cons q_h551 (q_cons q_h553 (q_cons q_h555 (q_nil))))))))))
theorem q_h426 : Cond.fieldLink RX11 101 (TX10 3).1 (TX10 3).2.1 (TX10 3).2.2.1 ∈ q_al := q_ali 426 (by decide +kernel) (by decide +kernel)
theorem q_h433 : Cond.fieldLink RX11 340 (TX10 5).1 (TX10 5).2.1 (TX10 5).2.2.1 ∈ q_al := q_ali 433 (by decide +kernel) (by decide +kernel)
theorem q_h1318 : Cond.methodLink RX11 345 yX10_isDay ∈ q_al := q_ali 1318 (by decide +kernel) (by decide +kernel)
theorem q_h880 : Cond.classLink RX11 83 "java/lang/IllegalArgumentException" ∈ q_al := q_ali 880 (by decide +kernel) (by decide +kernel)
theorem q_h152 : Cond.initialized "java/lang/IllegalArgumentException" ∈ q_al := q_ali 152 (by decide +kernel) (by decide +kernel)
theorem q_h527 : Cond.fieldLink RX11 10 (TX11 0).1 (TX11 0).2.1 (TX11 0).2.2.1 ∈ q_al := q_ali 527 (by decide +kernel) (by decide +kernel)
theorem q_h797 : Cond.methodLink RX11 64 yX8_hasRoomForFeed ∈ q_al := q_ali 797 (by decide +kernel) (by decide +kernel)
theorem q_h800 : Cond.code yX8_hasRoomForFeed cX8_hasRoomForFeed 1 (some .boolean) ∈ q_al := q_ali 800 (by decide +kernel) (by decide +kernel)
theorem q_h798 : Cond.instanceMethod yX8_hasRoomForFeed ∈ q_al := q_ali 798 (by decide +kernel) (by decide +kernel)
theorem q_h799 : Cond.selects RX8 yX8_hasRoomForFeed yX8_hasRoomForFeed ∈ q_al := q_ali 799 (by decide +kernel) (by decide +kernel)
theorem q_h868 : Cond.methodLink RX11 75 yX8_append ∈ q_al := q_ali 868 (by decide +kernel) (by decide +kernel)
theorem q_h871 : Cond.code yX8_append cX8_append 3 none ∈ q_al := q_ali 871 (by decide +kernel) (by decide +kernel)
theorem q_h869 : Cond.instanceMethod yX8_append ∈ q_al := q_ali 869 (by decide +kernel) (by decide +kernel)
theorem q_h870 : Cond.selects RX8 yX8_append yX8_append ∈ q_al := q_ali 870 (by decide +kernel) (by decide +kernel)
theorem q_h177 : Cond.fieldLink RX11 79 (TX8 1).1 (TX8 1).2.1 (TX8 1).2.2.1 ∈ q_al := q_ali 177 (by decide +kernel) (by decide +kernel)
theorem q_h801 : Cond.classLink RX11 68 "java/lang/IllegalStateException" ∈ q_al := q_ali 801 (by decide +kernel) (by decide +kernel)
theorem q_h151 : Cond.initialized "java/lang/IllegalStateException" ∈ q_al := q_ali 151 (by decide +kernel) (by decide +kernel)
theorem q_h528 : Cond.fieldLink RX11 19 (TX11 1).1 (TX11 1).2.1 (TX11 1).2.2.1 ∈ q_al := q_ali 528 (by decide +kernel) (by decide +kernel)
theorem q_h534 : Cond.fieldLink RX11 58 (TX11 7).1 (TX11 7).2.1 (TX11 7).2.2.1 ∈ q_al := q_ali 534 (by decide +kernel) (by decide +kernel)
theorem q_h903 : Cond.methodLink RX11 88 yX9_readAll ∈ q_al := q_ali 903 (by decide +kernel) (by decide +kernel)
theorem q_h906 : Cond.code yX9_readAll cX9_readAll 4 (some .boolean) ∈ q_al := q_ali 906 (by decide +kernel) (by decide +kernel)
theorem q_h904 : Cond.instanceMethod yX9_readAll ∈ q_al := q_ali 904 (by decide +kernel) (by decide +kernel)
theorem q_h905 : Cond.selects RX9 yX9_readAll yX9_readAll ∈ q_al := q_ali 905 (by decide +kernel) (by decide +kernel)
theorem q_h788 : Cond.methodLink RX11 94 yX10_copyFrom ∈ q_al := q_ali 788 (by decide +kernel) (by decide +kernel)
theorem q_h531 : Cond.fieldLink RX11 40 (TX11 4).1 (TX11 4).2.1 (TX11 4).2.2.1 ∈ q_al := q_ali 531 (by decide +kernel) (by decide +kernel)
theorem q_h1075 : Cond.methodLink RX11 98 yX2_forget ∈ q_al := q_ali 1075 (by decide +kernel) (by decide +kernel)
theorem q_h1078 : Cond.code yX2_forget cX2_forget 1 none ∈ q_al := q_ali 1078 (by decide +kernel) (by decide +kernel)
theorem q_h145 : Cond.initialized RX2 ∈ q_al := q_ali 145 (by decide +kernel) (by decide +kernel)
theorem q_h1076 : Cond.instanceMethod yX2_forget ∈ q_al := q_ali 1076 (by decide +kernel) (by decide +kernel)
theorem q_h1077 : Cond.selects RX2 yX2_forget yX2_forget ∈ q_al := q_ali 1077 (by decide +kernel) (by decide +kernel)
theorem q_h529 : Cond.fieldLink RX11 26 (TX11 2).1 (TX11 2).2.1 (TX11 2).2.2.1 ∈ q_al := q_ali 529 (by decide +kernel) (by decide +kernel)
theorem q_h1086 : Cond.methodLink RX11 104 yX7_readAll ∈ q_al := q_ali 1086 (by decide +kernel) (by decide +kernel)
theorem q_h1089 : Cond.code yX7_readAll cX7_readAll 5 (some .boolean) ∈ q_al := q_ali 1089 (by decide +kernel) (by decide +kernel)
theorem q_h1087 : Cond.instanceMethod yX7_readAll ∈ q_al := q_ali 1087 (by decide +kernel) (by decide +kernel)
theorem q_h1088 : Cond.selects RX7 yX7_readAll yX7_readAll ∈ q_al := q_ali 1088 (by decide +kernel) (by decide +kernel)
theorem q_h1134 : Cond.methodLink RX11 107 yX2_keep ∈ q_al := q_ali 1134 (by decide +kernel) (by decide +kernel)
theorem q_h1137 : Cond.code yX2_keep cX2_keep 2 none ∈ q_al := q_ali 1137 (by decide +kernel) (by decide +kernel)
theorem q_h1135 : Cond.instanceMethod yX2_keep ∈ q_al := q_ali 1135 (by decide +kernel) (by decide +kernel)
theorem q_h1136 : Cond.selects RX2 yX2_keep yX2_keep ∈ q_al := q_ali 1136 (by decide +kernel) (by decide +kernel)
theorem q_h1139 : Cond.methodLink RX11 110 yX7_runOn ∈ q_al := q_ali 1139 (by decide +kernel) (by decide +kernel)
theorem q_h1142 : Cond.code yX7_runOn cX7_runOn 5 (some .int) ∈ q_al := q_ali 1142 (by decide +kernel) (by decide +kernel)
theorem q_h1140 : Cond.instanceMethod yX7_runOn ∈ q_al := q_ali 1140 (by decide +kernel) (by decide +kernel)
theorem q_h1141 : Cond.selects RX7 yX7_runOn yX7_runOn ∈ q_al := q_ali 1141 (by decide +kernel) (by decide +kernel)
theorem q_h179 : Cond.fieldLink RX11 114 (TX8 2).1 (TX8 2).2.1 (TX8 2).2.2.1 ∈ q_al := q_ali 179 (by decide +kernel) (by decide +kernel)
theorem q_h181 : Cond.fieldLink RX11 117 (TX8 3).1 (TX8 3).2.1 (TX8 3).2.2.1 ∈ q_al := q_ali 181 (by decide +kernel) (by decide +kernel)
theorem q_h1210 : Cond.methodLink RX11 125 yX10_figure ∈ q_al := q_ali 1210 (by decide +kernel) (by decide +kernel)
theorem q_h1213 : Cond.code yX10_figure cX10_figure 2 (some .int) ∈ q_al := q_ali 1213 (by decide +kernel) (by decide +kernel)
theorem q_h1211 : Cond.instanceMethod yX10_figure ∈ q_al := q_ali 1211 (by decide +kernel) (by decide +kernel)
theorem q_h1212 : Cond.selects RX10 yX10_figure yX10_figure ∈ q_al := q_ali 1212 (by decide +kernel) (by decide +kernel)
theorem q_h503 : Cond.fieldLink RX11 122 (TX2 2).1 (TX2 2).2.1 (TX2 2).2.2.1 ∈ q_al := q_ali 503 (by decide +kernel) (by decide +kernel)
theorem q_h1230 : Cond.methodLink RX11 129 yX11_requireNode ∈ q_al := q_ali 1230 (by decide +kernel) (by decide +kernel)
theorem q_h1233 : Cond.code yX11_requireNode cX11_requireNode 2 none ∈ q_al := q_ali 1233 (by decide +kernel) (by decide +kernel)
theorem q_h135 : Cond.initialized RX11 ∈ q_al := q_ali 135 (by decide +kernel) (by decide +kernel)
theorem q_h1232 : Cond.instanceMethod yX11_requireNode ∈ q_al := q_ali 1232 (by decide +kernel) (by decide +kernel)
theorem q_h33 : Cond.selects RX11 yX11_requireNode yX11_requireNode ∈ q_al := q_ali 33 (by decide +kernel) (by decide +kernel)
theorem q_h1251 : Cond.methodLink RX11 134 yX10_nodeFigure ∈ q_al := q_ali 1251 (by decide +kernel) (by decide +kernel)
theorem q_h1254 : Cond.code yX10_nodeFigure cX10_nodeFigure 4 (some .int) ∈ q_al := q_ali 1254 (by decide +kernel) (by decide +kernel)
theorem q_h1252 : Cond.instanceMethod yX10_nodeFigure ∈ q_al := q_ali 1252 (by decide +kernel) (by decide +kernel)
theorem q_h1253 : Cond.selects RX10 yX10_nodeFigure yX10_nodeFigure ∈ q_al := q_ali 1253 (by decide +kernel) (by decide +kernel)
theorem q_h430 : Cond.fieldLink RX11 138 (TX10 4).1 (TX10 4).2.1 (TX10 4).2.2.1 ∈ q_al := q_ali 430 (by decide +kernel) (by decide +kernel)
theorem q_h1275 : Cond.methodLink RX11 148 yX10_linkAt ∈ q_al := q_ali 1275 (by decide +kernel) (by decide +kernel)
theorem q_h1276 : Cond.methodLink RX11 152 yX3_figure ∈ q_al := q_ali 1276 (by decide +kernel) (by decide +kernel)
theorem q_h1279 : Cond.code yX3_figure cX3_figure 2 (some .int) ∈ q_al := q_ali 1279 (by decide +kernel) (by decide +kernel)
theorem q_h1277 : Cond.instanceMethod yX3_figure ∈ q_al := q_ali 1277 (by decide +kernel) (by decide +kernel)
theorem q_h1278 : Cond.selects RX3 yX3_figure yX3_figure ∈ q_al := q_ali 1278 (by decide +kernel) (by decide +kernel)
theorem q_h1287 : Cond.methodLink RX11 155 yX11_requireMessage ∈ q_al := q_ali 1287 (by decide +kernel) (by decide +kernel)
theorem q_h1290 : Cond.code yX11_requireMessage cX11_requireMessage 2 none ∈ q_al := q_ali 1290 (by decide +kernel) (by decide +kernel)
theorem q_h1289 : Cond.instanceMethod yX11_requireMessage ∈ q_al := q_ali 1289 (by decide +kernel) (by decide +kernel)
theorem q_h35 : Cond.selects RX11 yX11_requireMessage yX11_requireMessage ∈ q_al := q_ali 35 (by decide +kernel) (by decide +kernel)
theorem q_h1293 : Cond.methodLink RX11 160 yX10_messageAt ∈ q_al := q_ali 1293 (by decide +kernel) (by decide +kernel)
theorem q_h1294 : Cond.methodLink RX11 164 yX4_figure ∈ q_al := q_ali 1294 (by decide +kernel) (by decide +kernel)
theorem q_h1297 : Cond.code yX4_figure cX4_figure 2 (some .int) ∈ q_al := q_ali 1297 (by decide +kernel) (by decide +kernel)
theorem q_h1295 : Cond.instanceMethod yX4_figure ∈ q_al := q_ali 1295 (by decide +kernel) (by decide +kernel)
theorem q_h1296 : Cond.selects RX4 yX4_figure yX4_figure ∈ q_al := q_ali 1296 (by decide +kernel) (by decide +kernel)
theorem q_h1305 : Cond.methodLink RX11 167 yX10_nodeAt ∈ q_al := q_ali 1305 (by decide +kernel) (by decide +kernel)
theorem q_h306 : Cond.fieldLink RX11 171 (TX5 0).1 (TX5 0).2.1 (TX5 0).2.2.1 ∈ q_al := q_ali 306 (by decide +kernel) (by decide +kernel)
theorem q_h1306 : Cond.methodLink RX11 177 yX8_letterOf ∈ q_al := q_ali 1306 (by decide +kernel) (by decide +kernel)
theorem q_h1314 : Cond.methodLink RX11 181 yX11_requireDay ∈ q_al := q_ali 1314 (by decide +kernel) (by decide +kernel)
theorem q_h1317 : Cond.code yX11_requireDay cX11_requireDay 2 none ∈ q_al := q_ali 1317 (by decide +kernel) (by decide +kernel)
theorem q_h1316 : Cond.instanceMethod yX11_requireDay ∈ q_al := q_ali 1316 (by decide +kernel) (by decide +kernel)
theorem q_h36 : Cond.selects RX11 yX11_requireDay yX11_requireDay ∈ q_al := q_ali 36 (by decide +kernel) (by decide +kernel)
theorem q_h1320 : Cond.methodLink RX11 184 yX10_tableOf ∈ q_al := q_ali 1320 (by decide +kernel) (by decide +kernel)
theorem q_h1321 : Cond.methodLink RX11 188 yX10_hasDay ∈ q_al := q_ali 1321 (by decide +kernel) (by decide +kernel)
theorem q_h1338 : Cond.methodLink RX11 207 yX10_awakeAfter ∈ q_al := q_ali 1338 (by decide +kernel) (by decide +kernel)
theorem q_h315 : Cond.fieldLink RX11 210 (TX5 3).1 (TX5 3).2.1 (TX5 3).2.2.1 ∈ q_al := q_ali 315 (by decide +kernel) (by decide +kernel)
theorem q_h1346 : Cond.methodLink RX11 213 yX10_meetingIn ∈ q_al := q_ali 1346 (by decide +kernel) (by decide +kernel)
theorem q_h1354 : Cond.methodLink RX11 223 yX10_hopsBetween ∈ q_al := q_ali 1354 (by decide +kernel) (by decide +kernel)
theorem q_h1362 : Cond.methodLink RX11 226 yX10_isOut ∈ q_al := q_ali 1362 (by decide +kernel) (by decide +kernel)
theorem q_h1363 : Cond.methodLink RX11 230 yX10_notOut ∈ q_al := q_ali 1363 (by decide +kernel) (by decide +kernel)
theorem q_h1364 : Cond.methodLink RX11 233 yX10_nextTowards ∈ q_al := q_ali 1364 (by decide +kernel) (by decide +kernel)
theorem q_h530 : Cond.fieldLink RX11 33 (TX11 3).1 (TX11 3).2.1 (TX11 3).2.2.1 ∈ q_al := q_ali 530 (by decide +kernel) (by decide +kernel)
theorem q_h1372 : Cond.methodLink RX11 239 yX1_ticksToArrival ∈ q_al := q_ali 1372 (by decide +kernel) (by decide +kernel)
theorem q_h1375 : Cond.code yX1_ticksToArrival cX1_ticksToArrival 3 (some .int) ∈ q_al := q_ali 1375 (by decide +kernel) (by decide +kernel)
theorem q_h1373 : Cond.instanceMethod yX1_ticksToArrival ∈ q_al := q_ali 1373 (by decide +kernel) (by decide +kernel)
theorem q_h1374 : Cond.selects RX1 yX1_ticksToArrival yX1_ticksToArrival ∈ q_al := q_ali 1374 (by decide +kernel) (by decide +kernel)
theorem q_h1388 : Cond.methodLink RX11 243 yX11_requireDifferent ∈ q_al := q_ali 1388 (by decide +kernel) (by decide +kernel)
theorem q_h1391 : Cond.code yX11_requireDifferent cX11_requireDifferent 3 none ∈ q_al := q_ali 1391 (by decide +kernel) (by decide +kernel)
theorem q_h1390 : Cond.instanceMethod yX11_requireDifferent ∈ q_al := q_ali 1390 (by decide +kernel) (by decide +kernel)
theorem q_h38 : Cond.selects RX11 yX11_requireDifferent yX11_requireDifferent ∈ q_al := q_ali 38 (by decide +kernel) (by decide +kernel)
theorem q_h1393 : Cond.methodLink RX11 247 yX1_ticksIfSent ∈ q_al := q_ali 1393 (by decide +kernel) (by decide +kernel)
theorem q_h1396 : Cond.code yX1_ticksIfSent cX1_ticksIfSent 5 (some .int) ∈ q_al := q_ali 1396 (by decide +kernel) (by decide +kernel)
theorem q_h1394 : Cond.instanceMethod yX1_ticksIfSent ∈ q_al := q_ali 1394 (by decide +kernel) (by decide +kernel)
theorem q_h1395 : Cond.selects RX1 yX1_ticksIfSent yX1_ticksIfSent ∈ q_al := q_ali 1395 (by decide +kernel) (by decide +kernel)
theorem q_h1410 : Cond.methodLink RX11 251 yX1_ticksToOut ∈ q_al := q_ali 1410 (by decide +kernel) (by decide +kernel)
theorem q_h1413 : Cond.code yX1_ticksToOut cX1_ticksToOut 4 (some .int) ∈ q_al := q_ali 1413 (by decide +kernel) (by decide +kernel)
theorem q_h1411 : Cond.instanceMethod yX1_ticksToOut ∈ q_al := q_ali 1411 (by decide +kernel) (by decide +kernel)
theorem q_h1412 : Cond.selects RX1 yX1_ticksToOut yX1_ticksToOut ∈ q_al := q_ali 1412 (by decide +kernel) (by decide +kernel)
theorem q_h1421 : Cond.methodLink RX11 254 yX1_energyAfter ∈ q_al := q_ali 1421 (by decide +kernel) (by decide +kernel)
theorem q_h1424 : Cond.code yX1_energyAfter cX1_energyAfter 4 (some .int) ∈ q_al := q_ali 1424 (by decide +kernel) (by decide +kernel)
theorem q_h1422 : Cond.instanceMethod yX1_energyAfter ∈ q_al := q_ali 1422 (by decide +kernel) (by decide +kernel)
theorem q_h1423 : Cond.selects RX1 yX1_energyAfter yX1_energyAfter ∈ q_al := q_ali 1423 (by decide +kernel) (by decide +kernel)
theorem q_h1433 : Cond.methodLink RX11 261 yX10_shiftToMeetSoonest ∈ q_al := q_ali 1433 (by decide +kernel) (by decide +kernel)
theorem q_h1436 : Cond.code yX10_shiftToMeetSoonest cX10_shiftToMeetSoonest 6 (some .int) ∈ q_al := q_ali 1436 (by decide +kernel) (by decide +kernel)
theorem q_h1434 : Cond.instanceMethod yX10_shiftToMeetSoonest ∈ q_al := q_ali 1434 (by decide +kernel) (by decide +kernel)
theorem q_h1435 : Cond.selects RX10 yX10_shiftToMeetSoonest yX10_shiftToMeetSoonest ∈ q_al := q_ali 1435 (by decide +kernel) (by decide +kernel)
theorem q_h1448 : Cond.methodLink RX11 264 yX1_dayToWatch ∈ q_al := q_ali 1448 (by decide +kernel) (by decide +kernel)
theorem q_h1451 : Cond.code yX1_dayToWatch cX1_dayToWatch 9 (some .int) ∈ q_al := q_ali 1451 (by decide +kernel) (by decide +kernel)
theorem q_h1449 : Cond.instanceMethod yX1_dayToWatch ∈ q_al := q_ali 1449 (by decide +kernel) (by decide +kernel)
theorem q_h1450 : Cond.selects RX1 yX1_dayToWatch yX1_dayToWatch ∈ q_al := q_ali 1450 (by decide +kernel) (by decide +kernel)
theorem q_h1462 : Cond.methodLink RX11 267 yX10_isTickCount ∈ q_al := q_ali 1462 (by decide +kernel) (by decide +kernel)
theorem q_h1463 : Cond.methodLink RX11 270 yX10_hasTimeFor ∈ q_al := q_ali 1463 (by decide +kernel) (by decide +kernel)
theorem q_h1465 : Cond.methodLink RX11 275 yX10_passTicks ∈ q_al := q_ali 1465 (by decide +kernel) (by decide +kernel)
theorem q_h1473 : Cond.methodLink RX11 278 yX10_isSending ∈ q_al := q_ali 1473 (by decide +kernel) (by decide +kernel)
theorem q_h1475 : Cond.methodLink RX11 284 yX10_canSend ∈ q_al := q_ali 1475 (by decide +kernel) (by decide +kernel)
theorem q_h1477 : Cond.methodLink RX11 290 yX10_addMessage ∈ q_al := q_ali 1477 (by decide +kernel) (by decide +kernel)
theorem q_h1492 : Cond.methodLink RX11 294 yX10_isWatched ∈ q_al := q_ali 1492 (by decide +kernel) (by decide +kernel)
theorem q_h1493 : Cond.methodLink RX11 297 yX10_turnWatch ∈ q_al := q_ali 1493 (by decide +kernel) (by decide +kernel)
theorem q_h311 : Cond.fieldLink RX11 300 (TX5 2).1 (TX5 2).2.1 (TX5 2).2.2.1 ∈ q_al := q_ali 311 (by decide +kernel) (by decide +kernel)
theorem q_h1508 : Cond.methodLink RX11 303 yX10_isCharge ∈ q_al := q_ali 1508 (by decide +kernel) (by decide +kernel)
theorem q_h1510 : Cond.methodLink RX11 308 yX10_addEnergy ∈ q_al := q_ali 1510 (by decide +kernel) (by decide +kernel)
theorem q_h446 : Cond.fieldLink RX11 313 (TX10 10).1 (TX10 10).2.1 (TX10 10).2.2.1 ∈ q_al := q_ali 446 (by decide +kernel) (by decide +kernel)
theorem q_h532 : Cond.fieldLink RX11 47 (TX11 5).1 (TX11 5).2.1 (TX11 5).2.2.1 ∈ q_al := q_ali 532 (by decide +kernel) (by decide +kernel)
theorem q_h519 : Cond.fieldLink RX11 319 (TX6 1).1 (TX6 1).2.1 (TX6 1).2.2.1 ∈ q_al := q_ali 519 (by decide +kernel) (by decide +kernel)
theorem q_h1527 : Cond.methodLink RX11 322 yX6_byteAt ∈ q_al := q_ali 1527 (by decide +kernel) (by decide +kernel)
theorem q_h1530 : Cond.code yX6_byteAt cX6_byteAt 2 (some .int) ∈ q_al := q_ali 1530 (by decide +kernel) (by decide +kernel)
theorem q_h1528 : Cond.instanceMethod yX6_byteAt ∈ q_al := q_ali 1528 (by decide +kernel) (by decide +kernel)
theorem q_h1529 : Cond.selects RX6 yX6_byteAt yX6_byteAt ∈ q_al := q_ali 1529 (by decide +kernel) (by decide +kernel)
theorem q_h536 : Cond.fieldLink RX11 329 (TX11 9).1 (TX11 9).2.1 (TX11 9).2.2.1 ∈ q_al := q_ali 536 (by decide +kernel) (by decide +kernel)
theorem q_h535 : Cond.fieldLink RX11 61 (TX11 8).1 (TX11 8).2.1 (TX11 8).2.2.1 ∈ q_al := q_ali 535 (by decide +kernel) (by decide +kernel)
theorem q_h448 : Cond.fieldLink RX11 333 (TX10 11).1 (TX10 11).2.1 (TX10 11).2.2.1 ∈ q_al := q_ali 448 (by decide +kernel) (by decide +kernel)
theorem q_h437 : Cond.fieldLink RX11 192 (TX10 6).1 (TX10 6).2.1 (TX10 6).2.2.1 ∈ q_al := q_ali 437 (by decide +kernel) (by decide +kernel)
theorem q_h1329 : Cond.methodLink RX11 195 yJ13_bitCount_95d88 ∈ q_al := q_ali 1329 (by decide +kernel) (by decide +kernel)
theorem q_h570 : Cond.methodLink RX11 201 yX10_energySum ∈ q_al := q_ali 570 (by decide +kernel) (by decide +kernel)
theorem q_h573 : Cond.code yX10_energySum cX10_energySum 3 (some .int) ∈ q_al := q_ali 573 (by decide +kernel) (by decide +kernel)
theorem q_h571 : Cond.instanceMethod yX10_energySum ∈ q_al := q_ali 571 (by decide +kernel) (by decide +kernel)
theorem q_h572 : Cond.selects RX10 yX10_energySum yX10_energySum ∈ q_al := q_ali 572 (by decide +kernel) (by decide +kernel)
theorem q_h582 : Cond.methodLink RX11 217 yX10_latestMeetingLink ∈ q_al := q_ali 582 (by decide +kernel) (by decide +kernel)
theorem q_h585 : Cond.code yX10_latestMeetingLink cX10_latestMeetingLink 6 (some .int) ∈ q_al := q_ali 585 (by decide +kernel) (by decide +kernel)
theorem q_h583 : Cond.instanceMethod yX10_latestMeetingLink ∈ q_al := q_ali 583 (by decide +kernel) (by decide +kernel)
theorem q_h584 : Cond.selects RX10 yX10_latestMeetingLink yX10_latestMeetingLink ∈ q_al := q_ali 584 (by decide +kernel) (by decide +kernel)
theorem q_h624 : Cond.methodLink RX11 220 yX10_ticksToMostAwake ∈ q_al := q_ali 624 (by decide +kernel) (by decide +kernel)
theorem q_h627 : Cond.code yX10_ticksToMostAwake cX10_ticksToMostAwake 5 (some .int) ∈ q_al := q_ali 627 (by decide +kernel) (by decide +kernel)
theorem q_h625 : Cond.instanceMethod yX10_ticksToMostAwake ∈ q_al := q_ali 625 (by decide +kernel) (by decide +kernel)
theorem q_h626 : Cond.selects RX10 yX10_ticksToMostAwake yX10_ticksToMostAwake ∈ q_al := q_ali 626 (by decide +kernel) (by decide +kernel)
theorem q_h642 : Cond.methodLink RX11 236 yX10_greatestHops ∈ q_al := q_ali 642 (by decide +kernel) (by decide +kernel)
theorem q_h645 : Cond.code yX10_greatestHops cX10_greatestHops 4 (some .int) ∈ q_al := q_ali 645 (by decide +kernel) (by decide +kernel)
theorem q_h643 : Cond.instanceMethod yX10_greatestHops ∈ q_al := q_ali 643 (by decide +kernel) (by decide +kernel)
theorem q_h644 : Cond.selects RX10 yX10_greatestHops yX10_greatestHops ∈ q_al := q_ali 644 (by decide +kernel) (by decide +kernel)
theorem q_h665 : Cond.methodLink RX11 258 yX1_ticksToShiftTaken ∈ q_al := q_ali 665 (by decide +kernel) (by decide +kernel)
theorem q_h668 : Cond.code yX1_ticksToShiftTaken cX1_ticksToShiftTaken 3 (some .int) ∈ q_al := q_ali 668 (by decide +kernel) (by decide +kernel)
theorem q_h666 : Cond.instanceMethod yX1_ticksToShiftTaken ∈ q_al := q_ali 666 (by decide +kernel) (by decide +kernel)
theorem q_h667 : Cond.selects RX1 yX1_ticksToShiftTaken yX1_ticksToShiftTaken ∈ q_al := q_ali 667 (by decide +kernel) (by decide +kernel)
theorem q_h743 : Cond.methodLink RX11 316 yX6_writeOf ∈ q_al := q_ali 743 (by decide +kernel) (by decide +kernel)
theorem q_h746 : Cond.code yX6_writeOf cX6_writeOf 3 (some .int) ∈ q_al := q_ali 746 (by decide +kernel) (by decide +kernel)
theorem q_h744 : Cond.instanceMethod yX6_writeOf ∈ q_al := q_ali 744 (by decide +kernel) (by decide +kernel)
theorem q_h745 : Cond.selects RX6 yX6_writeOf yX6_writeOf ∈ q_al := q_ali 745 (by decide +kernel) (by decide +kernel)
theorem q_h779 : Cond.methodLink RX11 325 yX2_takeBack ∈ q_al := q_ali 779 (by decide +kernel) (by decide +kernel)
theorem q_h782 : Cond.code yX2_takeBack cX2_takeBack 2 (some .boolean) ∈ q_al := q_ali 782 (by decide +kernel) (by decide +kernel)
theorem q_h780 : Cond.instanceMethod yX2_takeBack ∈ q_al := q_ali 780 (by decide +kernel) (by decide +kernel)
theorem q_h781 : Cond.selects RX2 yX2_takeBack yX2_takeBack ∈ q_al := q_ali 781 (by decide +kernel) (by decide +kernel)
section QR
variable {p : Program} {l : Launch} {e : Env} {R : Room} {s : State} {m : MethodId} {args : Array Value} {below : List Frame} {meth : Method} {c : Code} {H : Heap} {locs : List Loc} {cells slots : Nat} {Q : State → Prop}
variable {cc : ByteArray} {pc nL : Nat} {ls : Array Slot} {rest : List Value} {g : q_G} {K : Nat → Nat} {L : List Nat} {A : Nat → Prop} {w : q_Ws} {f0 f : Nat → va_E} {a : Nat}
theorem q_xl145a : ∀ w ∈ (q_xa 145 "java/lang/IndexOutOfBoundsException").filter goodWord, w ∈ q_al := q_xin (by decide +kernel)
theorem q_xl145b : ∀ w ∈ q_xb 145 "java/lang/IndexOutOfBoundsException", w ∈ q_xw := by decide +kernel
theorem q_xl145c : (Cond.classLink RX11 141 "java/lang/IndexOutOfBoundsException" :: Cond.initialized "java/lang/IndexOutOfBoundsException" :: q_xa 145 "java/lang/IndexOutOfBoundsException").all vx_ot = true := by decide +kernel
theorem q_gX11_54 {b : Nat} (cx : CallFix p m c cc nL s args q_al RX11) (hB : q_B g K L A w f0 f s H locs) (ha : a ∈ L) (hk : K a = 11) (hv : q_r f a 6 = b) (hdg : decode cc pc = .ok (.getfield 54, 3)) (kk : b ∈ L → K b = 10 → W p l e R s m args below meth c H locs cells slots Q (F0 m (pc + 3) ls (.ref b :: rest))) : W p l e R s m args below meth c H locs cells slots Q (F0 m pc ls (.ref a :: rest)) := q_getr (k2 := 10) cx hB ha hk (by decide) rfl rfl q_inX11 (by decide) q_h533 hv hdg kk
theorem q_gX11_101 {x : Int} (cx : CallFix p m c cc nL s args q_al RX11) (hB : q_B g K L A w f0 f s H locs) (ha : a ∈ L) (hk : K a = 10) (hv : q_z f a 3 = x) (hdg : decode cc pc = .ok (.getfield 101, 3)) (kk : 0 ≤ x → x ≤ 10 → W p l e R s m args below meth c H locs cells slots Q (F0 m (pc + 3) ls (.int (q_i x) :: rest))) : W p l e R s m args below meth c H locs cells slots Q (F0 m pc ls (.ref a :: rest)) := q_geti cx hB ha hk (by decide) rfl rfl q_inX10 (by decide) q_h426 hv hdg kk
theorem q_gX11_340 {x : Int} (cx : CallFix p m c cc nL s args q_al RX11) (hB : q_B g K L A w f0 f s H locs) (ha : a ∈ L) (hk : K a = 10) (hv : q_z f a 5 = x) (hdg : decode cc pc = .ok (.getfield 340, 3)) (kk : 0 ≤ x → x ≤ 61 → W p l e R s m args below meth c H locs cells slots Q (F0 m (pc + 3) ls (.int (q_i x) :: rest))) : W p l e R s m args below meth c H locs cells slots Q (F0 m pc ls (.ref a :: rest)) := q_geti cx hB ha hk (by decide) rfl rfl q_inX10 (by decide) q_h433 hv hdg kk
theorem q_cX11_345 : ∀ w ∈ wsV RX11 345 RX10 yX10_isDay (.code yX10_isDay cX10_isDay 2 (some .boolean) :: q_al), w ∈ q_al := q_cons q_h1318 (q_cons q_h1177 (q_cons q_h1178 (q_cons q_h141 (q_cons q_h1179 q_self))))
theorem q_xl87a : ∀ w ∈ (q_xa 87 "java/lang/IllegalArgumentException").filter goodWord, w ∈ q_al := q_xin (by decide +kernel)
theorem q_xl87b : ∀ w ∈ q_xb 87 "java/lang/IllegalArgumentException", w ∈ q_xw := by decide +kernel
theorem q_xl87c : (Cond.classLink RX11 83 "java/lang/IllegalArgumentException" :: Cond.initialized "java/lang/IllegalArgumentException" :: q_xa 87 "java/lang/IllegalArgumentException").all vx_ot = true := by decide +kernel
theorem q_gX11_10 {b : Nat} (cx : CallFix p m c cc nL s args q_al RX11) (hB : q_B g K L A w f0 f s H locs) (ha : a ∈ L) (hk : K a = 11) (hv : q_r f a 0 = b) (hdg : decode cc pc = .ok (.getfield 10, 3)) (kk : b ∈ L → K b = 8 → W p l e R s m args below meth c H locs cells slots Q (F0 m (pc + 3) ls (.ref b :: rest))) : W p l e R s m args below meth c H locs cells slots Q (F0 m pc ls (.ref a :: rest)) := q_getr (k2 := 8) cx hB ha hk (by decide) rfl rfl q_inX11 (by decide) q_h527 hv hdg kk
theorem q_cX11_64 : ∀ w ∈ wsV RX11 64 RX8 yX8_hasRoomForFeed (.code yX8_hasRoomForFeed cX8_hasRoomForFeed 1 (some .boolean) :: q_al), w ∈ q_al := q_cons q_h797 (q_cons q_h798 (q_cons q_h799 (q_cons q_h136 (q_cons q_h800 q_self))))
theorem q_dX8_hasRoomForFeed : yX8_hasRoomForFeed.cls = RX8 ∧ yX8_hasRoomForFeed.cls ≠ "java/lang/invoke/MethodHandle" ∧ yX8_hasRoomForFeed.cls ≠ "java/lang/invoke/VarHandle" ∧ (parseMethodDescriptor yX8_hasRoomForFeed.desc).map (fun d => d.parameters.length) = some 0 := by decide +kernel
theorem q_cX11_75 : ∀ w ∈ wsV RX11 75 RX8 yX8_append (.code yX8_append cX8_append 3 none :: q_al), w ∈ q_al := q_cons q_h868 (q_cons q_h869 (q_cons q_h870 (q_cons q_h136 (q_cons q_h871 q_self))))
theorem q_dX8_append : yX8_append.cls = RX8 ∧ yX8_append.cls ≠ "java/lang/invoke/MethodHandle" ∧ yX8_append.cls ≠ "java/lang/invoke/VarHandle" ∧ (parseMethodDescriptor yX8_append.desc).map (fun d => d.parameters.length) = some 1 := by decide +kernel
theorem q_gX11_79 {x : Int} (cx : CallFix p m c cc nL s args q_al RX11) (hB : q_B g K L A w f0 f s H locs) (ha : a ∈ L) (hk : K a = 8) (hv : q_z f a 1 = x) (hdg : decode cc pc = .ok (.getfield 79, 3)) (kk : 0 ≤ x → x ≤ 600 → W p l e R s m args below meth c H locs cells slots Q (F0 m (pc + 3) ls (.int (q_i x) :: rest))) : W p l e R s m args below meth c H locs cells slots Q (F0 m pc ls (.ref a :: rest)) := q_geti cx hB ha hk (by decide) rfl rfl q_inX8 (by decide) q_h177 hv hdg kk
theorem q_xl72a : ∀ w ∈ (q_xa 72 "java/lang/IllegalStateException").filter goodWord, w ∈ q_al := q_xin (by decide +kernel)
theorem q_xl72b : ∀ w ∈ q_xb 72 "java/lang/IllegalStateException", w ∈ q_xw := by decide +kernel
theorem q_xl72c : (Cond.classLink RX11 68 "java/lang/IllegalStateException" :: Cond.initialized "java/lang/IllegalStateException" :: q_xa 72 "java/lang/IllegalStateException").all vx_ot = true := by decide +kernel
theorem q_pX11_79 {x : Int} (cx : CallFix p m c cc nL s args q_al RX11) (hB : q_B g K L A w f0 f s H locs) (ha : a ∈ L) (hk : K a = 8) (hr : q_R x) (h1 : 0 ≤ x) (h2 : x ≤ 600) (hw : q_inW w 8 1 = true) (hdg : decode cc pc = .ok (.putfield 79, 3)) (kk : ∀ (H1 : Heap) (locs1 : List Loc) (f1 : Nat → va_E), f1 = q_set f a 1 (.int (q_i x)) → q_z f1 a 1 = x → q_B g K L A w f0 f1 s H1 locs1 → W p l e R s m args below meth c H1 locs1 cells slots Q (F0 m (pc + 3) ls rest)) : W p l e R s m args below meth c H locs cells slots Q (F0 m pc ls (.int (q_i x) :: .ref a :: rest)) := q_puti cx hB ha hk (by decide) rfl rfl q_inX8 tyX8 q_yX8 q_nX8 (by decide) rfl q_h177 rfl rfl hr h1 h2 hw hdg kk
theorem q_gX11_19 {b : Nat} (cx : CallFix p m c cc nL s args q_al RX11) (hB : q_B g K L A w f0 f s H locs) (ha : a ∈ L) (hk : K a = 11) (hv : q_r f a 1 = b) (hdg : decode cc pc = .ok (.getfield 19, 3)) (kk : b ∈ L → K b = 9 → W p l e R s m args below meth c H locs cells slots Q (F0 m (pc + 3) ls (.ref b :: rest))) : W p l e R s m args below meth c H locs cells slots Q (F0 m pc ls (.ref a :: rest)) := q_getr (k2 := 9) cx hB ha hk (by decide) rfl rfl q_inX11 (by decide) q_h528 hv hdg kk
theorem q_gX11_58 {b : Nat} (cx : CallFix p m c cc nL s args q_al RX11) (hB : q_B g K L A w f0 f s H locs) (ha : a ∈ L) (hk : K a = 11) (hv : q_r f a 7 = b) (hdg : decode cc pc = .ok (.getfield 58, 3)) (kk : b ∈ L → K b = 13 → W p l e R s m args below meth c H locs cells slots Q (F0 m (pc + 3) ls (.ref b :: rest))) : W p l e R s m args below meth c H locs cells slots Q (F0 m pc ls (.ref a :: rest)) := q_getr (k2 := 13) cx hB ha hk (by decide) rfl rfl q_inX11 (by decide) q_h534 hv hdg kk
theorem q_cX11_88 : ∀ w ∈ wsV RX11 88 RX9 yX9_readAll (.code yX9_readAll cX9_readAll 4 (some .boolean) :: q_al), w ∈ q_al := q_cons q_h903 (q_cons q_h904 (q_cons q_h905 (q_cons q_h137 (q_cons q_h906 q_self))))
theorem q_dX9_readAll : yX9_readAll.cls = RX9 ∧ yX9_readAll.cls ≠ "java/lang/invoke/MethodHandle" ∧ yX9_readAll.cls ≠ "java/lang/invoke/VarHandle" ∧ (parseMethodDescriptor yX9_readAll.desc).map (fun d => d.parameters.length) = some 2 := by decide +kernel
theorem q_cX11_94 : ∀ w ∈ wsV RX11 94 RX10 yX10_copyFrom (.code yX10_copyFrom cX10_copyFrom 3 none :: q_al), w ∈ q_al := q_cons q_h788 (q_cons q_h670 (q_cons q_h671 (q_cons q_h141 (q_cons q_h672 q_self))))
theorem q_gX11_40 {b : Nat} (cx : CallFix p m c cc nL s args q_al RX11) (hB : q_B g K L A w f0 f s H locs) (ha : a ∈ L) (hk : K a = 11) (hv : q_r f a 4 = b) (hdg : decode cc pc = .ok (.getfield 40, 3)) (kk : b ∈ L → K b = 2 → W p l e R s m args below meth c H locs cells slots Q (F0 m (pc + 3) ls (.ref b :: rest))) : W p l e R s m args below meth c H locs cells slots Q (F0 m pc ls (.ref a :: rest)) := q_getr (k2 := 2) cx hB ha hk (by decide) rfl rfl q_inX11 (by decide) q_h531 hv hdg kk
theorem q_cX11_98 : ∀ w ∈ wsV RX11 98 RX2 yX2_forget (.code yX2_forget cX2_forget 1 none :: q_al), w ∈ q_al := q_cons q_h1075 (q_cons q_h1076 (q_cons q_h1077 (q_cons q_h145 (q_cons q_h1078 q_self))))
theorem q_dX2_forget : yX2_forget.cls = RX2 ∧ yX2_forget.cls ≠ "java/lang/invoke/MethodHandle" ∧ yX2_forget.cls ≠ "java/lang/invoke/VarHandle" ∧ (parseMethodDescriptor yX2_forget.desc).map (fun d => d.parameters.length) = some 0 := by decide +kernel
theorem q_gX11_26 {b : Nat} (cx : CallFix p m c cc nL s args q_al RX11) (hB : q_B g K L A w f0 f s H locs) (ha : a ∈ L) (hk : K a = 11) (hv : q_r f a 2 = b) (hdg : decode cc pc = .ok (.getfield 26, 3)) (kk : b ∈ L → K b = 7 → W p l e R s m args below meth c H locs cells slots Q (F0 m (pc + 3) ls (.ref b :: rest))) : W p l e R s m args below meth c H locs cells slots Q (F0 m pc ls (.ref a :: rest)) := q_getr (k2 := 7) cx hB ha hk (by decide) rfl rfl q_inX11 (by decide) q_h529 hv hdg kk
theorem q_cX11_104 : ∀ w ∈ wsV RX11 104 RX7 yX7_readAll (.code yX7_readAll cX7_readAll 5 (some .boolean) :: q_al), w ∈ q_al := q_cons q_h1086 (q_cons q_h1087 (q_cons q_h1088 (q_cons q_h138 (q_cons q_h1089 q_self))))
theorem q_dX7_readAll : yX7_readAll.cls = RX7 ∧ yX7_readAll.cls ≠ "java/lang/invoke/MethodHandle" ∧ yX7_readAll.cls ≠ "java/lang/invoke/VarHandle" ∧ (parseMethodDescriptor yX7_readAll.desc).map (fun d => d.parameters.length) = some 2 := by decide +kernel
theorem q_cX11_107 : ∀ w ∈ wsV RX11 107 RX2 yX2_keep (.code yX2_keep cX2_keep 2 none :: q_al), w ∈ q_al := q_cons q_h1134 (q_cons q_h1135 (q_cons q_h1136 (q_cons q_h145 (q_cons q_h1137 q_self))))
theorem q_dX2_keep : yX2_keep.cls = RX2 ∧ yX2_keep.cls ≠ "java/lang/invoke/MethodHandle" ∧ yX2_keep.cls ≠ "java/lang/invoke/VarHandle" ∧ (parseMethodDescriptor yX2_keep.desc).map (fun d => d.parameters.length) = some 1 := by decide +kernel
theorem q_cX11_110 : ∀ w ∈ wsV RX11 110 RX7 yX7_runOn (.code yX7_runOn cX7_runOn 5 (some .int) :: q_al), w ∈ q_al := q_cons q_h1139 (q_cons q_h1140 (q_cons q_h1141 (q_cons q_h138 (q_cons q_h1142 q_self))))
theorem q_dX7_runOn : yX7_runOn.cls = RX7 ∧ yX7_runOn.cls ≠ "java/lang/invoke/MethodHandle" ∧ yX7_runOn.cls ≠ "java/lang/invoke/VarHandle" ∧ (parseMethodDescriptor yX7_runOn.desc).map (fun d => d.parameters.length) = some 1 := by decide +kernel
theorem q_gX11_114 {x : Int} (cx : CallFix p m c cc nL s args q_al RX11) (hB : q_B g K L A w f0 f s H locs) (ha : a ∈ L) (hk : K a = 8) (hv : q_z f a 2 = x) (hdg : decode cc pc = .ok (.getfield 114, 3)) (kk : (-2147483648) ≤ x → x ≤ 2147483647 → W p l e R s m args below meth c H locs cells slots Q (F0 m (pc + 3) ls (.int (q_i x) :: rest))) : W p l e R s m args below meth c H locs cells slots Q (F0 m pc ls (.ref a :: rest)) := q_geti cx hB ha hk (by decide) rfl rfl q_inX8 (by decide) q_h179 hv hdg kk
theorem q_gX11_117 {x : Int} (cx : CallFix p m c cc nL s args q_al RX11) (hB : q_B g K L A w f0 f s H locs) (ha : a ∈ L) (hk : K a = 8) (hv : q_z f a 3 = x) (hdg : decode cc pc = .ok (.getfield 117, 3)) (kk : (-2147483648) ≤ x → x ≤ 2147483647 → W p l e R s m args below meth c H locs cells slots Q (F0 m (pc + 3) ls (.int (q_i x) :: rest))) : W p l e R s m args below meth c H locs cells slots Q (F0 m pc ls (.ref a :: rest)) := q_geti cx hB ha hk (by decide) rfl rfl q_inX8 (by decide) q_h181 hv hdg kk
theorem q_cX11_125 : ∀ w ∈ wsV RX11 125 RX10 yX10_figure (.code yX10_figure cX10_figure 2 (some .int) :: q_al), w ∈ q_al := q_cons q_h1210 (q_cons q_h1211 (q_cons q_h1212 (q_cons q_h141 (q_cons q_h1213 q_self))))
theorem q_dX10_figure : yX10_figure.cls = RX10 ∧ yX10_figure.cls ≠ "java/lang/invoke/MethodHandle" ∧ yX10_figure.cls ≠ "java/lang/invoke/VarHandle" ∧ (parseMethodDescriptor yX10_figure.desc).map (fun d => d.parameters.length) = some 1 := by decide +kernel
theorem q_gX11_122 {x : Int} (cx : CallFix p m c cc nL s args q_al RX11) (hB : q_B g K L A w f0 f s H locs) (ha : a ∈ L) (hk : K a = 2) (hv : q_z f a 2 = x) (hdg : decode cc pc = .ok (.getfield 122, 3)) (kk : (-2147483648) ≤ x → x ≤ 2147483647 → W p l e R s m args below meth c H locs cells slots Q (F0 m (pc + 3) ls (.int (q_i x) :: rest))) : W p l e R s m args below meth c H locs cells slots Q (F0 m pc ls (.ref a :: rest)) := q_geti cx hB ha hk (by decide) rfl rfl q_inX2 (by decide) q_h503 hv hdg kk
theorem q_cX11_129 : ∀ w ∈ wsV RX11 129 RX11 yX11_requireNode (.code yX11_requireNode cX11_requireNode 2 none :: q_al), w ∈ q_al := q_cons q_h1230 (q_cons q_h1232 (q_cons q_h33 (q_cons q_h135 (q_cons q_h1233 q_self))))
theorem q_dX11_requireNode : yX11_requireNode.cls = RX11 ∧ yX11_requireNode.cls ≠ "java/lang/invoke/MethodHandle" ∧ yX11_requireNode.cls ≠ "java/lang/invoke/VarHandle" ∧ (parseMethodDescriptor yX11_requireNode.desc).map (fun d => d.parameters.length) = some 1 := by decide +kernel
theorem q_cX11_134 : ∀ w ∈ wsV RX11 134 RX10 yX10_nodeFigure (.code yX10_nodeFigure cX10_nodeFigure 4 (some .int) :: q_al), w ∈ q_al := q_cons q_h1251 (q_cons q_h1252 (q_cons q_h1253 (q_cons q_h141 (q_cons q_h1254 q_self))))
theorem q_dX10_nodeFigure : yX10_nodeFigure.cls = RX10 ∧ yX10_nodeFigure.cls ≠ "java/lang/invoke/MethodHandle" ∧ yX10_nodeFigure.cls ≠ "java/lang/invoke/VarHandle" ∧ (parseMethodDescriptor yX10_nodeFigure.desc).map (fun d => d.parameters.length) = some 2 := by decide +kernel
theorem q_gX11_138 {x : Int} (cx : CallFix p m c cc nL s args q_al RX11) (hB : q_B g K L A w f0 f s H locs) (ha : a ∈ L) (hk : K a = 10) (hv : q_z f a 4 = x) (hdg : decode cc pc = .ok (.getfield 138, 3)) (kk : 0 ≤ x → x ≤ 16 → W p l e R s m args below meth c H locs cells slots Q (F0 m (pc + 3) ls (.int (q_i x) :: rest))) : W p l e R s m args below meth c H locs cells slots Q (F0 m pc ls (.ref a :: rest)) := q_geti cx hB ha hk (by decide) rfl rfl q_inX10 (by decide) q_h430 hv hdg kk
theorem q_cX11_148 : ∀ w ∈ wsV RX11 148 RX10 yX10_linkAt (.code yX10_linkAt cX10_linkAt 2 (some (.object "WakeVillage$Link")) :: q_al), w ∈ q_al := q_cons q_h1275 (q_cons q_h587 (q_cons q_h588 (q_cons q_h141 (q_cons q_h589 q_self))))
theorem q_cX11_152 : ∀ w ∈ wsV RX11 152 RX3 yX3_figure (.code yX3_figure cX3_figure 2 (some .int) :: q_al), w ∈ q_al := q_cons q_h1276 (q_cons q_h1277 (q_cons q_h1278 (q_cons q_h143 (q_cons q_h1279 q_self))))
theorem q_dX3_figure : yX3_figure.cls = RX3 ∧ yX3_figure.cls ≠ "java/lang/invoke/MethodHandle" ∧ yX3_figure.cls ≠ "java/lang/invoke/VarHandle" ∧ (parseMethodDescriptor yX3_figure.desc).map (fun d => d.parameters.length) = some 1 := by decide +kernel
theorem q_cX11_155 : ∀ w ∈ wsV RX11 155 RX11 yX11_requireMessage (.code yX11_requireMessage cX11_requireMessage 2 none :: q_al), w ∈ q_al := q_cons q_h1287 (q_cons q_h1289 (q_cons q_h35 (q_cons q_h135 (q_cons q_h1290 q_self))))
theorem q_dX11_requireMessage : yX11_requireMessage.cls = RX11 ∧ yX11_requireMessage.cls ≠ "java/lang/invoke/MethodHandle" ∧ yX11_requireMessage.cls ≠ "java/lang/invoke/VarHandle" ∧ (parseMethodDescriptor yX11_requireMessage.desc).map (fun d => d.parameters.length) = some 1 := by decide +kernel
theorem q_cX11_160 : ∀ w ∈ wsV RX11 160 RX10 yX10_messageAt (.code yX10_messageAt cX10_messageAt 2 (some (.object "WakeVillage$Message")) :: q_al), w ∈ q_al := q_cons q_h1293 (q_cons q_h682 (q_cons q_h683 (q_cons q_h141 (q_cons q_h684 q_self))))
theorem q_cX11_164 : ∀ w ∈ wsV RX11 164 RX4 yX4_figure (.code yX4_figure cX4_figure 2 (some .int) :: q_al), w ∈ q_al := q_cons q_h1294 (q_cons q_h1295 (q_cons q_h1296 (q_cons q_h144 (q_cons q_h1297 q_self))))
theorem q_dX4_figure : yX4_figure.cls = RX4 ∧ yX4_figure.cls ≠ "java/lang/invoke/MethodHandle" ∧ yX4_figure.cls ≠ "java/lang/invoke/VarHandle" ∧ (parseMethodDescriptor yX4_figure.desc).map (fun d => d.parameters.length) = some 1 := by decide +kernel
theorem q_cX11_167 : ∀ w ∈ wsV RX11 167 RX10 yX10_nodeAt (.code yX10_nodeAt cX10_nodeAt 2 (some (.object "WakeVillage$Node")) :: q_al), w ∈ q_al := q_cons q_h1305 (q_cons q_h575 (q_cons q_h576 (q_cons q_h141 (q_cons q_h577 q_self))))
theorem q_gX11_171 {x : Int64} (cx : CallFix p m c cc nL s args q_al RX11) (hB : q_B g K L A w f0 f s H locs) (ha : a ∈ L) (hk : K a = 5) (hv : q_j f a 0 = x) (hdg : decode cc pc = .ok (.getfield 171, 3)) (kk : W p l e R s m args below meth c H locs cells slots Q (F0 m (pc + 3) ls (.long x :: rest))) : W p l e R s m args below meth c H locs cells slots Q (F0 m pc ls (.ref a :: rest)) := q_getl cx hB ha hk (by decide) rfl rfl q_inX5 (by decide) q_h306 hv hdg kk
theorem q_cX11_177 : ∀ w ∈ va_wsS RX11 177 yX8_letterOf (.code yX8_letterOf cX8_letterOf 3 (some .int) :: q_al), w ∈ q_al := q_cons q_h1306 (q_cons q_h757 (q_cons q_h136 (q_cons q_h758 q_self)))
theorem q_cX11_181 : ∀ w ∈ wsV RX11 181 RX11 yX11_requireDay (.code yX11_requireDay cX11_requireDay 2 none :: q_al), w ∈ q_al := q_cons q_h1314 (q_cons q_h1316 (q_cons q_h36 (q_cons q_h135 (q_cons q_h1317 q_self))))
theorem q_dX11_requireDay : yX11_requireDay.cls = RX11 ∧ yX11_requireDay.cls ≠ "java/lang/invoke/MethodHandle" ∧ yX11_requireDay.cls ≠ "java/lang/invoke/VarHandle" ∧ (parseMethodDescriptor yX11_requireDay.desc).map (fun d => d.parameters.length) = some 1 := by decide +kernel
theorem q_cX11_184 : ∀ w ∈ wsV RX11 184 RX10 yX10_tableOf (.code yX10_tableOf cX10_tableOf 6 (some .long) :: q_al), w ∈ q_al := q_cons q_h1320 (q_cons q_h607 (q_cons q_h608 (q_cons q_h141 (q_cons q_h609 q_self))))
theorem q_cX11_188 : ∀ w ∈ va_wsS RX11 188 yX10_hasDay (.code yX10_hasDay cX10_hasDay 3 (some .boolean) :: q_al), w ∈ q_al := q_cons q_h1321 (q_cons q_h618 (q_cons q_h141 (q_cons q_h619 q_self)))
theorem q_cX11_207 : ∀ w ∈ wsV RX11 207 RX10 yX10_awakeAfter (.code yX10_awakeAfter cX10_awakeAfter 4 (some .int) :: q_al), w ∈ q_al := q_cons q_h1338 (q_cons q_h629 (q_cons q_h630 (q_cons q_h141 (q_cons q_h631 q_self))))
theorem q_gX11_210 {x : Int} (cx : CallFix p m c cc nL s args q_al RX11) (hB : q_B g K L A w f0 f s H locs) (ha : a ∈ L) (hk : K a = 5) (hv : q_z f a 3 = x) (hdg : decode cc pc = .ok (.getfield 210, 3)) (kk : (-2147483648) ≤ x → x ≤ 2147483647 → W p l e R s m args below meth c H locs cells slots Q (F0 m (pc + 3) ls (.int (q_i x) :: rest))) : W p l e R s m args below meth c H locs cells slots Q (F0 m pc ls (.ref a :: rest)) := q_geti cx hB ha hk (by decide) rfl rfl q_inX5 (by decide) q_h315 hv hdg kk
theorem q_cX11_213 : ∀ w ∈ wsV RX11 213 RX10 yX10_meetingIn (.code yX10_meetingIn cX10_meetingIn 5 (some .int) :: q_al), w ∈ q_al := q_cons q_h1346 (q_cons q_h595 (q_cons q_h596 (q_cons q_h141 (q_cons q_h597 q_self))))
theorem q_cX11_223 : ∀ w ∈ wsV RX11 223 RX10 yX10_hopsBetween (.code yX10_hopsBetween cX10_hopsBetween 6 (some .int) :: q_al), w ∈ q_al := q_cons q_h1354 (q_cons q_h647 (q_cons q_h648 (q_cons q_h141 (q_cons q_h649 q_self))))
theorem q_cX11_226 : ∀ w ∈ wsV RX11 226 RX10 yX10_isOut (.code yX10_isOut cX10_isOut 2 (some .boolean) :: q_al), w ∈ q_al := q_cons q_h1362 (q_cons q_h603 (q_cons q_h604 (q_cons q_h141 (q_cons q_h605 q_self))))
theorem q_cX11_230 : ∀ w ∈ wsV RX11 230 RX10 yX10_notOut (.code yX10_notOut cX10_notOut 3 (some .int) :: q_al), w ∈ q_al := q_cons q_h1363 (q_cons q_h651 (q_cons q_h652 (q_cons q_h141 (q_cons q_h653 q_self))))
theorem q_cX11_233 : ∀ w ∈ wsV RX11 233 RX10 yX10_nextTowards (.code yX10_nextTowards cX10_nextTowards 7 (some .int) :: q_al), w ∈ q_al := q_cons q_h1364 (q_cons q_h725 (q_cons q_h726 (q_cons q_h141 (q_cons q_h727 q_self))))
theorem q_gX11_33 {b : Nat} (cx : CallFix p m c cc nL s args q_al RX11) (hB : q_B g K L A w f0 f s H locs) (ha : a ∈ L) (hk : K a = 11) (hv : q_r f a 3 = b) (hdg : decode cc pc = .ok (.getfield 33, 3)) (kk : b ∈ L → K b = 1 → W p l e R s m args below meth c H locs cells slots Q (F0 m (pc + 3) ls (.ref b :: rest))) : W p l e R s m args below meth c H locs cells slots Q (F0 m pc ls (.ref a :: rest)) := q_getr (k2 := 1) cx hB ha hk (by decide) rfl rfl q_inX11 (by decide) q_h530 hv hdg kk
theorem q_cX11_239 : ∀ w ∈ wsV RX11 239 RX1 yX1_ticksToArrival (.code yX1_ticksToArrival cX1_ticksToArrival 3 (some .int) :: q_al), w ∈ q_al := q_cons q_h1372 (q_cons q_h1373 (q_cons q_h1374 (q_cons q_h140 (q_cons q_h1375 q_self))))
theorem q_dX1_ticksToArrival : yX1_ticksToArrival.cls = RX1 ∧ yX1_ticksToArrival.cls ≠ "java/lang/invoke/MethodHandle" ∧ yX1_ticksToArrival.cls ≠ "java/lang/invoke/VarHandle" ∧ (parseMethodDescriptor yX1_ticksToArrival.desc).map (fun d => d.parameters.length) = some 2 := by decide +kernel
theorem q_cX11_243 : ∀ w ∈ wsV RX11 243 RX11 yX11_requireDifferent (.code yX11_requireDifferent cX11_requireDifferent 3 none :: q_al), w ∈ q_al := q_cons q_h1388 (q_cons q_h1390 (q_cons q_h38 (q_cons q_h135 (q_cons q_h1391 q_self))))
theorem q_dX11_requireDifferent : yX11_requireDifferent.cls = RX11 ∧ yX11_requireDifferent.cls ≠ "java/lang/invoke/MethodHandle" ∧ yX11_requireDifferent.cls ≠ "java/lang/invoke/VarHandle" ∧ (parseMethodDescriptor yX11_requireDifferent.desc).map (fun d => d.parameters.length) = some 2 := by decide +kernel
theorem q_cX11_247 : ∀ w ∈ wsV RX11 247 RX1 yX1_ticksIfSent (.code yX1_ticksIfSent cX1_ticksIfSent 5 (some .int) :: q_al), w ∈ q_al := q_cons q_h1393 (q_cons q_h1394 (q_cons q_h1395 (q_cons q_h140 (q_cons q_h1396 q_self))))
theorem q_dX1_ticksIfSent : yX1_ticksIfSent.cls = RX1 ∧ yX1_ticksIfSent.cls ≠ "java/lang/invoke/MethodHandle" ∧ yX1_ticksIfSent.cls ≠ "java/lang/invoke/VarHandle" ∧ (parseMethodDescriptor yX1_ticksIfSent.desc).map (fun d => d.parameters.length) = some 4 := by decide +kernel
theorem q_cX11_251 : ∀ w ∈ wsV RX11 251 RX1 yX1_ticksToOut (.code yX1_ticksToOut cX1_ticksToOut 4 (some .int) :: q_al), w ∈ q_al := q_cons q_h1410 (q_cons q_h1411 (q_cons q_h1412 (q_cons q_h140 (q_cons q_h1413 q_self))))
theorem q_dX1_ticksToOut : yX1_ticksToOut.cls = RX1 ∧ yX1_ticksToOut.cls ≠ "java/lang/invoke/MethodHandle" ∧ yX1_ticksToOut.cls ≠ "java/lang/invoke/VarHandle" ∧ (parseMethodDescriptor yX1_ticksToOut.desc).map (fun d => d.parameters.length) = some 2 := by decide +kernel
theorem q_cX11_254 : ∀ w ∈ wsV RX11 254 RX1 yX1_energyAfter (.code yX1_energyAfter cX1_energyAfter 4 (some .int) :: q_al), w ∈ q_al := q_cons q_h1421 (q_cons q_h1422 (q_cons q_h1423 (q_cons q_h140 (q_cons q_h1424 q_self))))
theorem q_dX1_energyAfter : yX1_energyAfter.cls = RX1 ∧ yX1_energyAfter.cls ≠ "java/lang/invoke/MethodHandle" ∧ yX1_energyAfter.cls ≠ "java/lang/invoke/VarHandle" ∧ (parseMethodDescriptor yX1_energyAfter.desc).map (fun d => d.parameters.length) = some 3 := by decide +kernel
theorem q_cX11_261 : ∀ w ∈ wsV RX11 261 RX10 yX10_shiftToMeetSoonest (.code yX10_shiftToMeetSoonest cX10_shiftToMeetSoonest 6 (some .int) :: q_al), w ∈ q_al := q_cons q_h1433 (q_cons q_h1434 (q_cons q_h1435 (q_cons q_h141 (q_cons q_h1436 q_self))))
theorem q_dX10_shiftToMeetSoonest : yX10_shiftToMeetSoonest.cls = RX10 ∧ yX10_shiftToMeetSoonest.cls ≠ "java/lang/invoke/MethodHandle" ∧ yX10_shiftToMeetSoonest.cls ≠ "java/lang/invoke/VarHandle" ∧ (parseMethodDescriptor yX10_shiftToMeetSoonest.desc).map (fun d => d.parameters.length) = some 1 := by decide +kernel
theorem q_cX11_264 : ∀ w ∈ wsV RX11 264 RX1 yX1_dayToWatch (.code yX1_dayToWatch cX1_dayToWatch 9 (some .int) :: q_al), w ∈ q_al := q_cons q_h1448 (q_cons q_h1449 (q_cons q_h1450 (q_cons q_h140 (q_cons q_h1451 q_self))))
theorem q_dX1_dayToWatch : yX1_dayToWatch.cls = RX1 ∧ yX1_dayToWatch.cls ≠ "java/lang/invoke/MethodHandle" ∧ yX1_dayToWatch.cls ≠ "java/lang/invoke/VarHandle" ∧ (parseMethodDescriptor yX1_dayToWatch.desc).map (fun d => d.parameters.length) = some 3 := by decide +kernel
theorem q_cX11_267 : ∀ w ∈ va_wsS RX11 267 yX10_isTickCount (.code yX10_isTickCount cX10_isTickCount 1 (some .boolean) :: q_al), w ∈ q_al := q_cons q_h1462 (q_cons q_h1152 (q_cons q_h141 (q_cons q_h1153 q_self)))
theorem q_cX11_270 : ∀ w ∈ wsV RX11 270 RX10 yX10_hasTimeFor (.code yX10_hasTimeFor cX10_hasTimeFor 2 (some .boolean) :: q_al), w ∈ q_al := q_cons q_h1463 (q_cons q_h1155 (q_cons q_h1156 (q_cons q_h141 (q_cons q_h1157 q_self))))
theorem q_cX11_275 : ∀ w ∈ wsV RX11 275 RX10 yX10_passTicks (.code yX10_passTicks cX10_passTicks 5 (some .int) :: q_al), w ∈ q_al := q_cons q_h1465 (q_cons q_h690 (q_cons q_h691 (q_cons q_h141 (q_cons q_h692 q_self))))
theorem q_cX11_278 : ∀ w ∈ va_wsS RX11 278 yX10_isSending (.code yX10_isSending cX10_isSending 3 (some .boolean) :: q_al), w ∈ q_al := q_cons q_h1473 (q_cons q_h1163 (q_cons q_h141 (q_cons q_h1164 q_self)))
theorem q_cX11_284 : ∀ w ∈ wsV RX11 284 RX10 yX10_canSend (.code yX10_canSend cX10_canSend 3 (some .boolean) :: q_al), w ∈ q_al := q_cons q_h1475 (q_cons q_h1166 (q_cons q_h1167 (q_cons q_h141 (q_cons q_h1168 q_self))))
theorem q_cX11_290 : ∀ w ∈ wsV RX11 290 RX10 yX10_addMessage (.code yX10_addMessage cX10_addMessage 6 (some .int) :: q_al), w ∈ q_al := q_cons q_h1477 (q_cons q_h1170 (q_cons q_h1171 (q_cons q_h141 (q_cons q_h1172 q_self))))
theorem q_pX11_210 {x : Int} (cx : CallFix p m c cc nL s args q_al RX11) (hB : q_B g K L A w f0 f s H locs) (ha : a ∈ L) (hk : K a = 5) (hr : q_R x) (h1 : (-2147483648) ≤ x) (h2 : x ≤ 2147483647) (hw : q_inW w 5 3 = true) (hdg : decode cc pc = .ok (.putfield 210, 3)) (kk : ∀ (H1 : Heap) (locs1 : List Loc) (f1 : Nat → va_E), f1 = q_set f a 3 (.int (q_i x)) → q_z f1 a 3 = x → q_B g K L A w f0 f1 s H1 locs1 → W p l e R s m args below meth c H1 locs1 cells slots Q (F0 m (pc + 3) ls rest)) : W p l e R s m args below meth c H locs cells slots Q (F0 m pc ls (.int (q_i x) :: .ref a :: rest)) := q_puti cx hB ha hk (by decide) rfl rfl q_inX5 tyX5 q_yX5 q_nX5 (by decide) rfl q_h315 rfl rfl hr h1 h2 hw hdg kk
theorem q_cX11_294 : ∀ w ∈ wsV RX11 294 RX10 yX10_isWatched (.code yX10_isWatched cX10_isWatched 3 (some .boolean) :: q_al), w ∈ q_al := q_cons q_h1492 (q_cons q_h1185 (q_cons q_h1186 (q_cons q_h141 (q_cons q_h1187 q_self))))
theorem q_cX11_297 : ∀ w ∈ wsV RX11 297 RX10 yX10_turnWatch (.code yX10_turnWatch cX10_turnWatch 3 none :: q_al), w ∈ q_al := q_cons q_h1493 (q_cons q_h1189 (q_cons q_h1190 (q_cons q_h141 (q_cons q_h1191 q_self))))
theorem q_gX11_300 {x : Int} (cx : CallFix p m c cc nL s args q_al RX11) (hB : q_B g K L A w f0 f s H locs) (ha : a ∈ L) (hk : K a = 5) (hv : q_z f a 2 = x) (hdg : decode cc pc = .ok (.getfield 300, 3)) (kk : (-2147483648) ≤ x → x ≤ 2147483647 → W p l e R s m args below meth c H locs cells slots Q (F0 m (pc + 3) ls (.int (q_i x) :: rest))) : W p l e R s m args below meth c H locs cells slots Q (F0 m pc ls (.ref a :: rest)) := q_geti cx hB ha hk (by decide) rfl rfl q_inX5 (by decide) q_h311 hv hdg kk
theorem q_pX11_300 {x : Int} (cx : CallFix p m c cc nL s args q_al RX11) (hB : q_B g K L A w f0 f s H locs) (ha : a ∈ L) (hk : K a = 5) (hr : q_R x) (h1 : (-2147483648) ≤ x) (h2 : x ≤ 2147483647) (hw : q_inW w 5 2 = true) (hdg : decode cc pc = .ok (.putfield 300, 3)) (kk : ∀ (H1 : Heap) (locs1 : List Loc) (f1 : Nat → va_E), f1 = q_set f a 2 (.int (q_i x)) → q_z f1 a 2 = x → q_B g K L A w f0 f1 s H1 locs1 → W p l e R s m args below meth c H1 locs1 cells slots Q (F0 m (pc + 3) ls rest)) : W p l e R s m args below meth c H locs cells slots Q (F0 m pc ls (.int (q_i x) :: .ref a :: rest)) := q_puti cx hB ha hk (by decide) rfl rfl q_inX5 tyX5 q_yX5 q_nX5 (by decide) rfl q_h311 rfl rfl hr h1 h2 hw hdg kk
theorem q_cX11_303 : ∀ w ∈ va_wsS RX11 303 yX10_isCharge (.code yX10_isCharge cX10_isCharge 1 (some .boolean) :: q_al), w ∈ q_al := q_cons q_h1508 (q_cons q_h1196 (q_cons q_h141 (q_cons q_h1197 q_self)))
theorem q_cX11_308 : ∀ w ∈ wsV RX11 308 RX10 yX10_addEnergy (.code yX10_addEnergy cX10_addEnergy 4 (some .int) :: q_al), w ∈ q_al := q_cons q_h1510 (q_cons q_h1199 (q_cons q_h1200 (q_cons q_h141 (q_cons q_h1201 q_self))))
theorem q_gX11_313 {x : Int} (cx : CallFix p m c cc nL s args q_al RX11) (hB : q_B g K L A w f0 f s H locs) (ha : a ∈ L) (hk : K a = 10) (hv : q_z f a 10 = x) (hdg : decode cc pc = .ok (.getfield 313, 3)) (kk : (-2147483648) ≤ x → x ≤ 2147483647 → W p l e R s m args below meth c H locs cells slots Q (F0 m (pc + 3) ls (.int (q_i x) :: rest))) : W p l e R s m args below meth c H locs cells slots Q (F0 m pc ls (.ref a :: rest)) := q_geti cx hB ha hk (by decide) rfl rfl q_inX10 (by decide) q_h446 hv hdg kk
theorem q_pX11_313 {x : Int} (cx : CallFix p m c cc nL s args q_al RX11) (hB : q_B g K L A w f0 f s H locs) (ha : a ∈ L) (hk : K a = 10) (hr : q_R x) (h1 : (-2147483648) ≤ x) (h2 : x ≤ 2147483647) (hw : q_inW w 10 10 = true) (hdg : decode cc pc = .ok (.putfield 313, 3)) (kk : ∀ (H1 : Heap) (locs1 : List Loc) (f1 : Nat → va_E), f1 = q_set f a 10 (.int (q_i x)) → q_z f1 a 10 = x → q_B g K L A w f0 f1 s H1 locs1 → W p l e R s m args below meth c H1 locs1 cells slots Q (F0 m (pc + 3) ls rest)) : W p l e R s m args below meth c H locs cells slots Q (F0 m pc ls (.int (q_i x) :: .ref a :: rest)) := q_puti cx hB ha hk (by decide) rfl rfl q_inX10 tyX10 q_yX10 q_nX10 (by decide) rfl q_h446 rfl rfl hr h1 h2 hw hdg kk
theorem q_gX11_47 {b : Nat} (cx : CallFix p m c cc nL s args q_al RX11) (hB : q_B g K L A w f0 f s H locs) (ha : a ∈ L) (hk : K a = 11) (hv : q_r f a 5 = b) (hdg : decode cc pc = .ok (.getfield 47, 3)) (kk : b ∈ L → K b = 6 → W p l e R s m args below meth c H locs cells slots Q (F0 m (pc + 3) ls (.ref b :: rest))) : W p l e R s m args below meth c H locs cells slots Q (F0 m pc ls (.ref a :: rest)) := q_getr (k2 := 6) cx hB ha hk (by decide) rfl rfl q_inX11 (by decide) q_h532 hv hdg kk
theorem q_gX11_319 {x : Int} (cx : CallFix p m c cc nL s args q_al RX11) (hB : q_B g K L A w f0 f s H locs) (ha : a ∈ L) (hk : K a = 6) (hv : q_z f a 1 = x) (hdg : decode cc pc = .ok (.getfield 319, 3)) (kk : (-2147483648) ≤ x → x ≤ 2147483647 → W p l e R s m args below meth c H locs cells slots Q (F0 m (pc + 3) ls (.int (q_i x) :: rest))) : W p l e R s m args below meth c H locs cells slots Q (F0 m pc ls (.ref a :: rest)) := q_geti cx hB ha hk (by decide) rfl rfl q_inX6 (by decide) q_h519 hv hdg kk
theorem q_cX11_322 : ∀ w ∈ wsV RX11 322 RX6 yX6_byteAt (.code yX6_byteAt cX6_byteAt 2 (some .int) :: q_al), w ∈ q_al := q_cons q_h1527 (q_cons q_h1528 (q_cons q_h1529 (q_cons q_h146 (q_cons q_h1530 q_self))))
theorem q_dX6_byteAt : yX6_byteAt.cls = RX6 ∧ yX6_byteAt.cls ≠ "java/lang/invoke/MethodHandle" ∧ yX6_byteAt.cls ≠ "java/lang/invoke/VarHandle" ∧ (parseMethodDescriptor yX6_byteAt.desc).map (fun d => d.parameters.length) = some 1 := by decide +kernel
theorem q_gX11_329 {x : Int} (cx : CallFix p m c cc nL s args q_al RX11) (hB : q_B g K L A w f0 f s H locs) (ha : a ∈ L) (hk : K a = 11) (hv : q_z f a 9 = x) (hdg : decode cc pc = .ok (.getfield 329, 3)) (kk : 0 ≤ x → x ≤ 1 → W p l e R s m args below meth c H locs cells slots Q (F0 m (pc + 3) ls (.int (q_i x) :: rest))) : W p l e R s m args below meth c H locs cells slots Q (F0 m pc ls (.ref a :: rest)) := q_geti cx hB ha hk (by decide) rfl rfl q_inX11 (by decide) q_h536 hv hdg kk
theorem q_gX11_61 {b : Nat} (cx : CallFix p m c cc nL s args q_al RX11) (hB : q_B g K L A w f0 f s H locs) (ha : a ∈ L) (hk : K a = 11) (hv : q_r f a 8 = b) (hdg : decode cc pc = .ok (.getfield 61, 3)) (kk : b ∈ L → K b = 14 → W p l e R s m args below meth c H locs cells slots Q (F0 m (pc + 3) ls (.ref b :: rest))) : W p l e R s m args below meth c H locs cells slots Q (F0 m pc ls (.ref a :: rest)) := q_getr (k2 := 14) cx hB ha hk (by decide) rfl rfl q_inX11 (by decide) q_h535 hv hdg kk
theorem q_gX11_333 {x : Int} (cx : CallFix p m c cc nL s args q_al RX11) (hB : q_B g K L A w f0 f s H locs) (ha : a ∈ L) (hk : K a = 10) (hv : q_z f a 11 = x) (hdg : decode cc pc = .ok (.getfield 333, 3)) (kk : (-2147483648) ≤ x → x ≤ 2147483647 → W p l e R s m args below meth c H locs cells slots Q (F0 m (pc + 3) ls (.int (q_i x) :: rest))) : W p l e R s m args below meth c H locs cells slots Q (F0 m pc ls (.ref a :: rest)) := q_geti cx hB ha hk (by decide) rfl rfl q_inX10 (by decide) q_h448 hv hdg kk
theorem q_gX11_192 {x : Int} (cx : CallFix p m c cc nL s args q_al RX11) (hB : q_B g K L A w f0 f s H locs) (ha : a ∈ L) (hk : K a = 10) (hv : q_z f a 6 = x) (hdg : decode cc pc = .ok (.getfield 192, 3)) (kk : 4 ≤ x → x ≤ 60 → W p l e R s m args below meth c H locs cells slots Q (F0 m (pc + 3) ls (.int (q_i x) :: rest))) : W p l e R s m args below meth c H locs cells slots Q (F0 m pc ls (.ref a :: rest)) := q_geti cx hB ha hk (by decide) rfl rfl q_inX10 (by decide) q_h437 hv hdg kk
theorem q_cX11_195 : ∀ w ∈ va_wsS RX11 195 yJ13_bitCount_95d88 (.code yJ13_bitCount_95d88 cJ13_bitCount_95d88 2 (some .int) :: q_al), w ∈ q_al := q_cons q_h1329 (q_cons q_h1256 (q_cons q_h160 (q_cons q_h1257 q_self)))
theorem q_cX11_201 : ∀ w ∈ wsV RX11 201 RX10 yX10_energySum (.code yX10_energySum cX10_energySum 3 (some .int) :: q_al), w ∈ q_al := q_cons q_h570 (q_cons q_h571 (q_cons q_h572 (q_cons q_h141 (q_cons q_h573 q_self))))
theorem q_dX10_energySum : yX10_energySum.cls = RX10 ∧ yX10_energySum.cls ≠ "java/lang/invoke/MethodHandle" ∧ yX10_energySum.cls ≠ "java/lang/invoke/VarHandle" ∧ (parseMethodDescriptor yX10_energySum.desc).map (fun d => d.parameters.length) = some 0 := by decide +kernel
theorem q_cX11_217 : ∀ w ∈ wsV RX11 217 RX10 yX10_latestMeetingLink (.code yX10_latestMeetingLink cX10_latestMeetingLink 6 (some .int) :: q_al), w ∈ q_al := q_cons q_h582 (q_cons q_h583 (q_cons q_h584 (q_cons q_h141 (q_cons q_h585 q_self))))
theorem q_dX10_latestMeetingLink : yX10_latestMeetingLink.cls = RX10 ∧ yX10_latestMeetingLink.cls ≠ "java/lang/invoke/MethodHandle" ∧ yX10_latestMeetingLink.cls ≠ "java/lang/invoke/VarHandle" ∧ (parseMethodDescriptor yX10_latestMeetingLink.desc).map (fun d => d.parameters.length) = some 0 := by decide +kernel
theorem q_cX11_220 : ∀ w ∈ wsV RX11 220 RX10 yX10_ticksToMostAwake (.code yX10_ticksToMostAwake cX10_ticksToMostAwake 5 (some .int) :: q_al), w ∈ q_al := q_cons q_h624 (q_cons q_h625 (q_cons q_h626 (q_cons q_h141 (q_cons q_h627 q_self))))
theorem q_dX10_ticksToMostAwake : yX10_ticksToMostAwake.cls = RX10 ∧ yX10_ticksToMostAwake.cls ≠ "java/lang/invoke/MethodHandle" ∧ yX10_ticksToMostAwake.cls ≠ "java/lang/invoke/VarHandle" ∧ (parseMethodDescriptor yX10_ticksToMostAwake.desc).map (fun d => d.parameters.length) = some 0 := by decide +kernel
theorem q_cX11_236 : ∀ w ∈ wsV RX11 236 RX10 yX10_greatestHops (.code yX10_greatestHops cX10_greatestHops 4 (some .int) :: q_al), w ∈ q_al := q_cons q_h642 (q_cons q_h643 (q_cons q_h644 (q_cons q_h141 (q_cons q_h645 q_self))))
theorem q_dX10_greatestHops : yX10_greatestHops.cls = RX10 ∧ yX10_greatestHops.cls ≠ "java/lang/invoke/MethodHandle" ∧ yX10_greatestHops.cls ≠ "java/lang/invoke/VarHandle" ∧ (parseMethodDescriptor yX10_greatestHops.desc).map (fun d => d.parameters.length) = some 0 := by decide +kernel
theorem q_cX11_258 : ∀ w ∈ wsV RX11 258 RX1 yX1_ticksToShiftTaken (.code yX1_ticksToShiftTaken cX1_ticksToShiftTaken 3 (some .int) :: q_al), w ∈ q_al := q_cons q_h665 (q_cons q_h666 (q_cons q_h667 (q_cons q_h140 (q_cons q_h668 q_self))))
theorem q_dX1_ticksToShiftTaken : yX1_ticksToShiftTaken.cls = RX1 ∧ yX1_ticksToShiftTaken.cls ≠ "java/lang/invoke/MethodHandle" ∧ yX1_ticksToShiftTaken.cls ≠ "java/lang/invoke/VarHandle" ∧ (parseMethodDescriptor yX1_ticksToShiftTaken.desc).map (fun d => d.parameters.length) = some 1 := by decide +kernel
theorem q_cX11_316 : ∀ w ∈ wsV RX11 316 RX6 yX6_writeOf (.code yX6_writeOf cX6_writeOf 3 (some .int) :: q_al), w ∈ q_al := q_cons q_h743 (q_cons q_h744 (q_cons q_h745 (q_cons q_h146 (q_cons q_h746 q_self))))
theorem q_dX6_writeOf : yX6_writeOf.cls = RX6 ∧ yX6_writeOf.cls ≠ "java/lang/invoke/MethodHandle" ∧ yX6_writeOf.cls ≠ "java/lang/invoke/VarHandle" ∧ (parseMethodDescriptor yX6_writeOf.desc).map (fun d => d.parameters.length) = some 1 := by decide +kernel
theorem q_cX11_325 : ∀ w ∈ wsV RX11 325 RX2 yX2_takeBack (.code yX2_takeBack cX2_takeBack 2 (some .boolean) :: q_al), w ∈ q_al := q_cons q_h779 (q_cons q_h780 (q_cons q_h781 (q_cons q_h145 (q_cons q_h782 q_self))))
theorem q_dX2_takeBack : yX2_takeBack.cls = RX2 ∧ yX2_takeBack.cls ≠ "java/lang/invoke/MethodHandle" ∧ yX2_takeBack.cls ≠ "java/lang/invoke/VarHandle" ∧ (parseMethodDescriptor yX2_takeBack.desc).map (fun d => d.parameters.length) = some 1 := by decide +kernel
theorem q_pX11_329 {x : Int} (cx : CallFix p m c cc nL s args q_al RX11) (hB : q_B g K L A w f0 f s H locs) (ha : a ∈ L) (hk : K a = 11) (hr : q_R x) (h1 : 0 ≤ x) (h2 : x ≤ 1) (hw : q_inW w 11 9 = true) (hdg : decode cc pc = .ok (.putfield 329, 3)) (kk : ∀ (H1 : Heap) (locs1 : List Loc) (f1 : Nat → va_E), f1 = q_set f a 9 (.int (q_i x)) → q_z f1 a 9 = x → q_B g K L A w f0 f1 s H1 locs1 → W p l e R s m args below meth c H1 locs1 cells slots Q (F0 m (pc + 3) ls rest)) : W p l e R s m args below meth c H locs cells slots Q (F0 m pc ls (.int (q_i x) :: .ref a :: rest)) := q_puti cx hB ha hk (by decide) rfl rfl q_inX11 tyX11 q_yX11 q_nX11 (by decide) rfl q_h536 (q_narz h1 h2) (q_fitz h1 h2) hr h1 h2 hw hdg kk
end QR
