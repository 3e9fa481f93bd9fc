set_option maxRecDepth 20000 in
theorem ggL_law_X9_shelvesWith : GoodIn wsL_law wsX9_shelvesWith := goodIn_r _ [1100, 115, 440, 441, 5, 442, 189, 190, 191, 1101, 1102, 1103, 1104, 107, 212, 213, 214, 215, 192, 193, 194, 195, 1538, 1539, 1540, 1541, 1542, 1543, 1544, 1545, 1546, 1547, 1548, 1549, 1550] rfl (by decide +kernel)
set_option maxRecDepth 20000 in
theorem gL_law_X9_shelvesWith : GoodIn wsL_law (wsV RL 348 RX9 yX9_shelvesWith wsX9_shelvesWith) := goodIn_app (goodIn_r _ [1097, 1098, 1099, 5] rfl (by decide +kernel)) ggL_law_X9_shelvesWith
set_option maxRecDepth 20000 in
theorem ggL_law_L_leastOf : GoodIn wsL_law wsL_leastOf := goodIn_ca (goodIn_r _ [1107, 236, 1108, 1109, 1110, 2, 1111, 16, 422, 423, 424, 425, 245, 246, 1532, 1533, 1534, 1535, 1536, 1537, 1551, 1552, 1553, 1554, 1555, 1575, 1576, 1577, 1578] rfl (by decide +kernel)) (goodIn_sub (fun _ h => List.mem_append_right _ h) (by decide +kernel))
set_option maxRecDepth 20000 in
theorem gL_law_L_leastOf : GoodIn wsL_law (va_wsS RL 349 yL_leastOf wsL_leastOf) := goodIn_app (goodIn_r _ [1105, 1106, 118] rfl (by decide +kernel)) ggL_law_L_leastOf
set_option maxRecDepth 20000 in
theorem ggL_law_X9_leastOf : GoodIn wsL_law wsX9_leastOf := goodIn_r _ [1115, 115, 107, 440, 441, 5, 442, 189, 190, 191, 192, 193, 194, 195, 1538, 1539, 1540, 1541, 1542, 1543, 1544, 1545, 1546, 1547, 1548, 1549, 1550] rfl (by decide +kernel)
set_option maxRecDepth 20000 in
theorem gL_law_X9_leastOf : GoodIn wsL_law (wsV RL 351 RX9 yX9_leastOf wsX9_leastOf) := goodIn_app (goodIn_r _ [1112, 1113, 1114, 5] rfl (by decide +kernel)) ggL_law_X9_leastOf
set_option maxRecDepth 20000 in
theorem ggL_law_L_missingOf : GoodIn wsL_law wsL_missingOf := goodIn_ca (goodIn_r _ [1118, 236, 1119, 1120, 1121, 2, 1122, 16, 422, 423, 424, 425, 245, 246, 1123, 15, 1124, 1125, 43, 35, 1126, 962, 285, 963, 1069, 34, 1070, 1071, 52, 250, 251, 252, 253, 57, 1532, 1533, 1534, 1535, 1536, 1537, 1551, 1552, 1553, 1554, 1555, 1575, 1576, 1577, 1578, 1562, 1563, 1564, 1565, 1566, 1567] rfl (by decide +kernel)) (goodIn_sub (fun _ h => List.mem_append_right _ h) (by decide +kernel))
set_option maxRecDepth 20000 in
theorem gL_law_L_missingOf : GoodIn wsL_law (va_wsS RL 352 yL_missingOf wsL_missingOf) := goodIn_app (goodIn_r _ [1116, 1117, 118] rfl (by decide +kernel)) ggL_law_L_missingOf
set_option maxRecDepth 20000 in
theorem ggL_law_X9_missingOf : GoodIn wsL_law wsX9_missingOf := goodIn_r _ [1130, 115, 440, 441, 5, 442, 189, 190, 191, 1131, 1132, 1133, 1134, 107, 618, 619, 620, 621, 212, 213, 214, 215, 192, 193, 194, 195, 1538, 1539, 1540, 1541, 1542, 1543, 1544, 1545, 1546, 1547, 1548, 1549, 1550] rfl (by decide +kernel)
set_option maxRecDepth 20000 in
theorem gL_law_X9_missingOf : GoodIn wsL_law (wsV RL 354 RX9 yX9_missingOf wsX9_missingOf) := goodIn_app (goodIn_r _ [1127, 1128, 1129, 5] rfl (by decide +kernel)) ggL_law_X9_missingOf
set_option maxRecDepth 20000 in
theorem ggL_law_X8_shortKinds : GoodIn wsL_law wsX8_shortKinds := goodIn_r _ [1138, 16, 1123, 15, 1124, 1125, 43, 35, 1126, 962, 285, 963, 1069, 34, 1070, 1071, 52, 250, 251, 252, 253, 57, 1532, 1533, 1534, 1535, 1536, 1537, 1551, 1552, 1553, 1554, 1555, 1575, 1576, 1577, 1578, 1562, 1563, 1564, 1565, 1566, 1567] rfl (by decide +kernel)
set_option maxRecDepth 20000 in
theorem gL_law_X8_shortKinds : GoodIn wsL_law (wsV RL 355 RX8 yX8_shortKinds wsX8_shortKinds) := goodIn_app (goodIn_r _ [1135, 1136, 1137, 2] rfl (by decide +kernel)) ggL_law_X8_shortKinds
set_option maxRecDepth 20000 in
theorem ggL_law_X9_shortKinds : GoodIn wsL_law wsX9_shortKinds := goodIn_r _ [1142, 115, 1143, 1144, 1145, 5, 1146, 1131, 1132, 1133, 1134, 107, 618, 619, 620, 621, 212, 213, 214, 215, 1538, 1539, 1540, 1541, 1542, 1543, 1544, 1545, 1546, 1547, 1548, 1549, 1550] rfl (by decide +kernel)
set_option maxRecDepth 20000 in
theorem gL_law_X9_shortKinds : GoodIn wsL_law (wsV RL 358 RX9 yX9_shortKinds wsX9_shortKinds) := goodIn_app (goodIn_r _ [1139, 1140, 1141, 5] rfl (by decide +kernel)) ggL_law_X9_shortKinds
set_option maxRecDepth 20000 in
theorem ggL_law_X8_orders : GoodIn wsL_law wsX8_orders := goodIn_r _ [1150, 16, 1532, 1533, 1534, 1535, 1536, 1537, 1551, 1552, 1553, 1554, 1555, 1579, 1580] rfl (by decide +kernel)
set_option maxRecDepth 20000 in
theorem gL_law_X8_orders : GoodIn wsL_law (wsV RL 359 RX8 yX8_orders wsX8_orders) := goodIn_app (goodIn_r _ [1147, 1148, 1149, 2] rfl (by decide +kernel)) ggL_law_X8_orders
set_option maxRecDepth 20000 in
theorem ggL_law_X9_orders : GoodIn wsL_law wsX9_orders := goodIn_r _ [1154, 115, 107, 1538, 1539, 1540, 1541, 1542, 1543, 1544, 1545, 1546, 1547, 1548, 1549, 1550] rfl (by decide +kernel)
set_option maxRecDepth 20000 in
theorem gL_law_X9_orders : GoodIn wsL_law (wsV RL 362 RX9 yX9_orders wsX9_orders) := goodIn_app (goodIn_r _ [1151, 1152, 1153, 5] rfl (by decide +kernel)) ggL_law_X9_orders
set_option maxRecDepth 20000 in
theorem ggL_law_L_wanted : GoodIn wsL_law wsL_wanted := goodIn_ca (goodIn_r _ [1157, 236, 1158, 1159, 1160, 2, 1161, 16, 533, 534, 535, 536, 245, 246, 422, 423, 424, 425, 541, 46, 542, 543, 80, 1532, 1533, 1534, 1535, 1536, 1537, 1551, 1552, 1553, 1554, 1555, 1579, 1580] rfl (by decide +kernel)) (goodIn_sub (fun _ h => List.mem_append_right _ h) (by decide +kernel))
set_option maxRecDepth 20000 in
theorem gL_law_L_wanted : GoodIn wsL_law (va_wsS RL 363 yL_wanted wsL_wanted) := goodIn_app (goodIn_r _ [1155, 1156, 118] rfl (by decide +kernel)) ggL_law_L_wanted
set_option maxRecDepth 20000 in
theorem ggL_law_X9_wanted : GoodIn wsL_law wsX9_wanted := goodIn_r _ [1165, 115, 551, 552, 553, 5, 554, 107, 189, 190, 191, 440, 441, 442, 559, 560, 561, 562, 192, 193, 194, 195, 1538, 1539, 1540, 1541, 1542, 1543, 1544, 1545, 1546, 1547, 1548, 1549, 1550] rfl (by decide +kernel)
set_option maxRecDepth 20000 in
theorem gL_law_X9_wanted : GoodIn wsL_law (wsV RL 365 RX9 yX9_wanted wsX9_wanted) := goodIn_app (goodIn_r _ [1162, 1163, 1164, 5] rfl (by decide +kernel)) ggL_law_X9_wanted
set_option maxRecDepth 20000 in
theorem ggL_law_L_thingsOf : GoodIn wsL_law wsL_thingsOf := goodIn_ca (goodIn_r _ [1168, 236, 1169, 1170, 1171, 2, 1172, 16, 533, 534, 535, 536, 245, 246, 537, 46, 538, 539, 540, 541, 542, 543, 80, 1532, 1533, 1534, 1535, 1536, 1537, 1551, 1552, 1553, 1554, 1555, 1579, 1580] rfl (by decide +kernel)) (goodIn_sub (fun _ h => List.mem_append_right _ h) (by decide +kernel))
set_option maxRecDepth 20000 in
theorem gL_law_L_thingsOf : GoodIn wsL_law (va_wsS RL 366 yL_thingsOf wsL_thingsOf) := goodIn_app (goodIn_r _ [1166, 1167, 118] rfl (by decide +kernel)) ggL_law_L_thingsOf
set_option maxRecDepth 20000 in
theorem ggL_law_X9_thingsOf : GoodIn wsL_law wsX9_thingsOf := goodIn_r _ [1176, 115, 551, 552, 553, 5, 554, 107, 189, 190, 191, 555, 556, 557, 558, 559, 560, 561, 562, 192, 193, 194, 195, 1538, 1539, 1540, 1541, 1542, 1543, 1544, 1545, 1546, 1547, 1548, 1549, 1550] rfl (by decide +kernel)
set_option maxRecDepth 20000 in
theorem gL_law_X9_thingsOf : GoodIn wsL_law (wsV RL 368 RX9 yX9_thingsOf wsX9_thingsOf) := goodIn_app (goodIn_r _ [1173, 1174, 1175, 5] rfl (by decide +kernel)) ggL_law_X9_thingsOf
set_option maxRecDepth 20000 in
theorem ggL_law_L_canServe : GoodIn wsL_law wsL_canServe := goodIn_ca (goodIn_r _ [1179, 236, 1180, 1181, 1182, 2, 1183, 16, 533, 534, 535, 536, 245, 246, 578, 15, 579, 580, 35, 581, 582, 583, 584, 47, 541, 46, 542, 543, 80, 251, 34, 252, 253, 57, 1532, 1533, 1534, 1535, 1536, 1537, 1551, 1552, 1553, 1554, 1555, 1579, 1580, 1562, 1563, 1564, 1565, 1566, 1567] rfl (by decide +kernel)) (goodIn_sub (fun _ h => List.mem_append_right _ h) (by decide +kernel))
set_option maxRecDepth 20000 in
theorem gL_law_L_canServe : GoodIn wsL_law (va_wsS RL 369 yL_canServe wsL_canServe) := goodIn_app (goodIn_r _ [1177, 1178, 118] rfl (by decide +kernel)) ggL_law_L_canServe
set_option maxRecDepth 20000 in
theorem ggL_law_X9_canServe : GoodIn wsL_law wsX9_canServe := goodIn_r _ [1187, 115, 551, 552, 553, 5, 554, 107, 189, 190, 191, 614, 615, 616, 617, 559, 560, 561, 562, 618, 619, 620, 621, 212, 213, 214, 215, 192, 193, 194, 195, 1538, 1539, 1540, 1541, 1542, 1543, 1544, 1545, 1546, 1547, 1548, 1549, 1550] rfl (by decide +kernel)
set_option maxRecDepth 20000 in
theorem gL_law_X9_canServe : GoodIn wsL_law (wsV RL 371 RX9 yX9_canServe wsX9_canServe) := goodIn_app (goodIn_r _ [1184, 1185, 1186, 5] rfl (by decide +kernel)) ggL_law_X9_canServe
set_option maxRecDepth 20000 in
theorem ggL_law_L_fewestByTrying : GoodIn wsL_law wsL_fewestByTrying := goodIn_ca (goodIn_ca (goodIn_r _ [1190, 236, 121, 1191, 1192, 1193, 2, 1194, 16, 533, 534, 535, 536, 245, 246, 574, 575, 576, 577, 126, 127, 578, 15, 579, 580, 35, 581, 582, 583, 584, 47, 541, 46, 542, 543, 80, 251, 34, 252, 253, 57, 589, 590, 591, 592, 593, 594, 595, 596, 597, 598, 599, 600, 601, 602, 1195, 1532, 1533, 1534, 1535, 1536, 1537, 1551, 1552, 1553, 1554, 1555, 1579, 1580, 1562, 1563, 1564, 1565, 1566, 1567] rfl (by decide +kernel)) (goodIn_sub (fun _ h => List.mem_append_right _ h) (by decide +kernel))) (goodIn_sub (fun _ h => List.mem_append_left _ (List.mem_append_left _ (List.mem_append_right _ h))) (by decide +kernel))
set_option maxRecDepth 20000 in
theorem gL_law_L_fewestByTrying : GoodIn wsL_law (va_wsS RL 372 yL_fewestByTrying wsL_fewestByTrying) := goodIn_app (goodIn_r _ [1188, 1189, 118] rfl (by decide +kernel)) ggL_law_L_fewestByTrying
set_option maxRecDepth 20000 in
theorem ggL_law_X9_fewestByTrying : GoodIn wsL_law wsX9_fewestByTrying := goodIn_r _ [1199, 1200, 1201, 1202, 5, 1203, 115, 551, 552, 553, 554, 107, 189, 190, 191, 192, 193, 194, 195, 614, 615, 616, 617, 559, 560, 561, 562, 618, 619, 620, 621, 212, 213, 214, 215, 626, 627, 628, 629, 630, 631, 632, 633, 634, 635, 636, 1538, 1539, 1540, 1541, 1542, 1543, 1544, 1545, 1546, 1547, 1548, 1549, 1550] rfl (by decide +kernel)
set_option maxRecDepth 20000 in
theorem gL_law_X9_fewestByTrying : GoodIn wsL_law (wsV RL 374 RX9 yX9_fewestByTrying wsX9_fewestByTrying) := goodIn_app (goodIn_r _ [1196, 1197, 1198, 5] rfl (by decide +kernel)) ggL_law_X9_fewestByTrying
set_option maxRecDepth 20000 in
theorem ggL_law_L_fewestByGoing : GoodIn wsL_law wsL_fewestByGoing := goodIn_ca (goodIn_ca (goodIn_r _ [1206, 236, 121, 1207, 1208, 1209, 2, 1210, 533, 534, 535, 536, 245, 246, 16, 574, 575, 576, 577, 126, 127, 578, 15, 579, 580, 35, 581, 582, 583, 584, 47, 541, 46, 542, 543, 80, 251, 34, 252, 253, 57, 1211, 1212, 1213, 1214, 28, 1215, 1216, 1217, 1218, 1219, 1220, 1221, 1222, 1223, 250, 1224, 1225, 1226, 1532, 1533, 1534, 1535, 1536, 1537, 1551, 1552, 1553, 1554, 1555, 1579, 1580, 1562, 1563, 1564, 1565, 1566, 1567] rfl (by decide +kernel)) (goodIn_sub (fun _ h => List.mem_append_right _ h) (by decide +kernel))) (goodIn_sub (fun _ h => List.mem_append_left _ (List.mem_append_left _ (List.mem_append_right _ h))) (by decide +kernel))
set_option maxRecDepth 20000 in
theorem gL_law_L_fewestByGoing : GoodIn wsL_law (va_wsS RL 375 yL_fewestByGoing wsL_fewestByGoing) := goodIn_app (goodIn_r _ [1204, 1205, 118] rfl (by decide +kernel)) ggL_law_L_fewestByGoing
set_option maxRecDepth 20000 in
theorem ggL_law_X9_fewestByGoing : GoodIn wsL_law wsX9_fewestByGoing := goodIn_r _ [1230, 1200, 1201, 1202, 5, 1203, 115, 551, 552, 553, 554, 107, 189, 190, 191, 192, 193, 194, 195, 614, 615, 616, 617, 559, 560, 561, 562, 618, 619, 620, 621, 212, 213, 214, 215, 626, 627, 628, 629, 630, 631, 632, 633, 634, 635, 636, 1538, 1539, 1540, 1541, 1542, 1543, 1544, 1545, 1546, 1547, 1548, 1549, 1550] rfl (by decide +kernel)
set_option maxRecDepth 20000 in
theorem gL_law_X9_fewestByGoing : GoodIn wsL_law (wsV RL 377 RX9 yX9_fewestByGoing wsX9_fewestByGoing) := goodIn_app (goodIn_r _ [1227, 1228, 1229, 5] rfl (by decide +kernel)) ggL_law_X9_fewestByGoing
set_option maxRecDepth 20000 in
theorem ggL_law_L_choiceFor : GoodIn wsL_law wsL_choiceFor := goodIn_ca (goodIn_ca (goodIn_r _ [1233, 236, 121, 1234, 1235, 1236, 2, 1237, 16, 533, 534, 535, 536, 245, 246, 574, 575, 576, 577, 126, 127, 578, 15, 579, 580, 35, 581, 582, 583, 584, 47, 541, 46, 542, 543, 80, 251, 34, 252, 253, 57, 589, 590, 591, 592, 593, 594, 595, 596, 597, 598, 599, 600, 601, 602, 1532, 1533, 1534, 1535, 1536, 1537, 1551, 1552, 1553, 1554, 1555, 1579, 1580, 1562, 1563, 1564, 1565, 1566, 1567] rfl (by decide +kernel)) (goodIn_sub (fun _ h => List.mem_append_right _ h) (by decide +kernel))) (goodIn_sub (fun _ h => List.mem_append_left _ (List.mem_append_left _ (List.mem_append_right _ h))) (by decide +kernel))
set_option maxRecDepth 20000 in
theorem gL_law_L_choiceFor : GoodIn wsL_law (va_wsS RL 378 yL_choiceFor wsL_choiceFor) := goodIn_app (goodIn_r _ [1231, 1232, 118] rfl (by decide +kernel)) ggL_law_L_choiceFor
set_option maxRecDepth 20000 in
theorem ggL_law_X9_choiceFor : GoodIn wsL_law wsX9_choiceFor := goodIn_r _ [1241, 1200, 1201, 1202, 5, 1203, 115, 551, 552, 553, 554, 107, 189, 190, 191, 192, 193, 194, 195, 614, 615, 616, 617, 559, 560, 561, 562, 618, 619, 620, 621, 212, 213, 214, 215, 626, 627, 628, 629, 630, 631, 632, 633, 634, 635, 636, 1538, 1539, 1540, 1541, 1542, 1543, 1544, 1545, 1546, 1547, 1548, 1549, 1550] rfl (by decide +kernel)
set_option maxRecDepth 20000 in
theorem gL_law_X9_choiceFor : GoodIn wsL_law (wsV RL 380 RX9 yX9_choiceFor wsX9_choiceFor) := goodIn_app (goodIn_r _ [1238, 1239, 1240, 5] rfl (by decide +kernel)) ggL_law_X9_choiceFor
set_option maxRecDepth 20000 in
theorem ggL_law_L_ticksByServing : GoodIn wsL_law wsL_ticksByServing := goodIn_ca (goodIn_ca (goodIn_r _ [1244, 236, 121, 1245, 1246, 1247, 2, 1248, 17, 16, 533, 534, 535, 536, 245, 246, 134, 135, 136, 137, 126, 127, 574, 575, 576, 577, 578, 15, 579, 580, 35, 581, 582, 583, 584, 47, 541, 46, 542, 543, 80, 251, 34, 252, 253, 57, 161, 162, 163, 39, 43, 48, 164, 165, 166, 52, 53, 54, 167, 168, 169, 170, 55, 56, 171, 38, 172, 173, 61, 62, 63, 64, 65, 66, 68, 174, 42, 175, 176, 72, 177, 73, 74, 75, 178, 179, 180, 79, 181, 585, 586, 587, 588, 589, 590, 591, 592, 593, 594, 595, 596, 597, 598, 599, 600, 601, 602, 603, 276, 277, 278, 279, 280, 281, 282, 283, 284, 285, 286, 287, 288, 289, 290, 291, 292, 293, 294, 604, 605, 606, 607, 608, 433, 434, 435, 609, 326, 327, 328, 138, 139, 140, 141, 142, 143, 144, 145, 146, 147, 148, 149, 150, 151, 152, 153, 329, 330, 331, 332, 544, 545, 546, 1532, 1533, 1534, 1535, 1536, 1537, 1551, 1552, 1553, 1554, 1555, 1579, 1580, 1562, 1563, 1564, 1565, 1566, 1567, 1568, 1569, 1570, 1571, 1572, 1573, 1574, 1575, 1576, 1577, 1578] rfl (by decide +kernel)) (goodIn_sub (fun _ h => List.mem_append_right _ h) (by decide +kernel))) (goodIn_sub (fun _ h => List.mem_append_left _ (List.mem_append_left _ (List.mem_append_right _ h))) (by decide +kernel))
set_option maxRecDepth 20000 in
theorem gL_law_L_ticksByServing : GoodIn wsL_law (va_wsS RL 381 yL_ticksByServing wsL_ticksByServing) := goodIn_app (goodIn_r _ [1242, 1243, 118] rfl (by decide +kernel)) ggL_law_L_ticksByServing
set_option maxRecDepth 20000 in
theorem ggL_law_X9_ticksByServing : GoodIn wsL_law wsX9_ticksByServing := goodIn_r _ [1252, 115, 551, 552, 553, 5, 554, 107, 189, 190, 191, 192, 193, 194, 195, 196, 197, 198, 199, 614, 615, 616, 617, 559, 560, 561, 562, 618, 619, 620, 621, 212, 213, 214, 215, 1253, 1254, 1255, 1256, 403, 404, 405, 406, 108, 622, 623, 624, 625, 114, 626, 627, 628, 629, 630, 631, 632, 633, 634, 635, 636, 299, 300, 301, 302, 303, 304, 305, 306, 307, 308, 309, 310, 221, 222, 223, 224, 311, 312, 313, 314, 637, 638, 639, 640, 337, 338, 339, 340, 200, 201, 202, 203, 204, 205, 206, 207, 208, 209, 210, 211, 341, 342, 343, 344, 225, 226, 227, 228, 563, 564, 565, 566, 411, 412, 413, 414, 1538, 1539, 1540, 1541, 1542, 1543, 1544, 1545, 1546, 1547, 1548, 1549, 1550] rfl (by decide +kernel)
set_option maxRecDepth 20000 in
theorem gL_law_X9_ticksByServing : GoodIn wsL_law (wsV RL 383 RX9 yX9_ticksByServing wsX9_ticksByServing) := goodIn_app (goodIn_r _ [1249, 1250, 1251, 5] rfl (by decide +kernel)) ggL_law_X9_ticksByServing
set_option maxRecDepth 20000 in
theorem ggL_law_L_ticksBySums : GoodIn wsL_law wsL_ticksBySums := goodIn_ca (goodIn_ca (goodIn_r _ [1259, 236, 121, 1260, 1261, 1262, 2, 1263, 126, 127, 16, 533, 534, 535, 536, 245, 246, 134, 135, 136, 137, 574, 575, 576, 577, 578, 15, 579, 580, 35, 581, 582, 583, 584, 47, 541, 46, 542, 543, 80, 251, 34, 252, 253, 57, 589, 590, 591, 592, 593, 594, 595, 596, 597, 598, 599, 600, 601, 602, 1264, 1265, 1266, 39, 283, 284, 285, 286, 287, 288, 1532, 1533, 1534, 1535, 1536, 1537, 1551, 1552, 1553, 1554, 1555, 1568, 1569, 1570, 1571, 1572, 1573, 1574, 1579, 1580, 1562, 1563, 1564, 1565, 1566, 1567] rfl (by decide +kernel)) (goodIn_sub (fun _ h => List.mem_append_left _ (List.mem_append_left _ (List.mem_append_right _ h))) (by decide +kernel))) (goodIn_sub (fun _ h => List.mem_append_right _ h) (by decide +kernel))
set_option maxRecDepth 20000 in
theorem gL_law_L_ticksBySums : GoodIn wsL_law (va_wsS RL 384 yL_ticksBySums wsL_ticksBySums) := goodIn_app (goodIn_r _ [1257, 1258, 118] rfl (by decide +kernel)) ggL_law_L_ticksBySums
set_option maxRecDepth 20000 in
theorem ggL_law_X9_ticksBySums : GoodIn wsL_law wsX9_ticksBySums := goodIn_r _ [1270, 115, 107, 551, 552, 553, 5, 554, 189, 190, 191, 192, 193, 194, 195, 196, 197, 198, 199, 614, 615, 616, 617, 559, 560, 561, 562, 618, 619, 620, 621, 212, 213, 214, 215, 1253, 1254, 1255, 1256, 403, 404, 405, 406, 108, 622, 623, 624, 625, 114, 626, 627, 628, 629, 630, 631, 632, 633, 634, 635, 636, 299, 300, 301, 302, 303, 304, 305, 306, 307, 308, 309, 310, 221, 222, 223, 224, 311, 312, 313, 314, 637, 638, 639, 640, 337, 338, 339, 340, 200, 201, 202, 203, 204, 205, 206, 207, 208, 209, 210, 211, 341, 342, 343, 344, 225, 226, 227, 228, 563, 564, 565, 566, 411, 412, 413, 414, 1538, 1539, 1540, 1541, 1542, 1543, 1544, 1545, 1546, 1547, 1548, 1549, 1550] rfl (by decide +kernel)
