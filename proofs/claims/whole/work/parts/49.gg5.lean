set_option maxRecDepth 20000 in
theorem gL_law_X9_ticksBySums : GoodIn wsL_law (wsV RL 386 RX9 yX9_ticksBySums wsX9_ticksBySums) := goodIn_app (goodIn_r _ [1267, 1268, 1269, 5] rfl (by decide +kernel)) ggL_law_X9_ticksBySums
set_option maxRecDepth 20000 in
theorem ggL_law_L_cheapestOrder : GoodIn wsL_law wsL_cheapestOrder := goodIn_ca (goodIn_r _ [1273, 121, 1274, 1275, 1276, 2, 1277, 126, 127, 134, 135, 136, 137, 16, 1278, 1279, 1280, 1281, 17, 578, 15, 579, 580, 35, 581, 582, 583, 584, 47, 541, 46, 542, 543, 80, 251, 34, 252, 253, 57, 161, 162, 163, 39, 43, 48, 164, 165, 166, 52, 53, 54, 167, 168, 169, 170, 55, 56, 171, 38, 172, 173, 61, 62, 63, 64, 65, 66, 68, 174, 42, 175, 176, 72, 177, 73, 74, 75, 178, 179, 180, 79, 181, 585, 586, 587, 588, 589, 590, 591, 592, 593, 594, 595, 596, 597, 598, 599, 600, 601, 602, 603, 276, 277, 278, 279, 280, 281, 282, 283, 284, 285, 286, 287, 288, 289, 290, 291, 292, 293, 294, 604, 605, 606, 607, 608, 433, 434, 435, 609, 326, 327, 328, 138, 139, 140, 141, 142, 143, 144, 145, 146, 147, 148, 149, 150, 151, 152, 153, 329, 330, 331, 332, 544, 545, 546, 1532, 1533, 1534, 1535, 1536, 1537, 1551, 1552, 1553, 1554, 1555, 1562, 1563, 1564, 1565, 1566, 1567, 1579, 1580, 1568, 1569, 1570, 1571, 1572, 1573, 1574, 1575, 1576, 1577, 1578] rfl (by decide +kernel)) (goodIn_sub (fun _ h => List.mem_append_left _ (List.mem_append_left _ (List.mem_append_right _ h))) (by decide +kernel))
set_option maxRecDepth 20000 in
theorem gL_law_L_cheapestOrder : GoodIn wsL_law (va_wsS RL 387 yL_cheapestOrder wsL_cheapestOrder) := goodIn_app (goodIn_r _ [1271, 1272, 118] rfl (by decide +kernel)) ggL_law_L_cheapestOrder
set_option maxRecDepth 20000 in
theorem ggL_law_X9_cheapestOrder : GoodIn wsL_law wsX9_cheapestOrder := goodIn_r _ [1285, 115, 1286, 1287, 1288, 5, 1289, 107, 196, 197, 198, 199, 614, 615, 616, 617, 559, 560, 561, 562, 618, 619, 620, 621, 212, 213, 214, 215, 1253, 1254, 1255, 1256, 403, 404, 405, 406, 108, 622, 623, 624, 625, 114, 626, 627, 628, 629, 630, 631, 632, 633, 634, 635, 636, 299, 300, 301, 302, 303, 304, 305, 306, 307, 308, 309, 310, 221, 222, 223, 224, 311, 312, 313, 314, 637, 638, 639, 640, 337, 338, 339, 340, 200, 201, 202, 203, 204, 205, 206, 207, 208, 209, 210, 211, 189, 190, 191, 341, 342, 343, 344, 225, 226, 227, 228, 563, 564, 565, 566, 411, 412, 413, 414, 192, 193, 194, 195, 1538, 1539, 1540, 1541, 1542, 1543, 1544, 1545, 1546, 1547, 1548, 1549, 1550] rfl (by decide +kernel)
set_option maxRecDepth 20000 in
theorem gL_law_X9_cheapestOrder : GoodIn wsL_law (wsV RL 389 RX9 yX9_cheapestOrder wsX9_cheapestOrder) := goodIn_app (goodIn_r _ [1282, 1283, 1284, 5] rfl (by decide +kernel)) ggL_law_X9_cheapestOrder
set_option maxRecDepth 20000 in
theorem ggL_law_L_servable : GoodIn wsL_law wsL_servable := goodIn_ca (goodIn_r _ [1292, 121, 1293, 1294, 1295, 2, 1296, 17, 16, 134, 135, 136, 137, 126, 127, 161, 15, 162, 163, 35, 39, 43, 47, 48, 164, 34, 165, 166, 52, 53, 54, 167, 168, 169, 170, 55, 56, 57, 171, 38, 172, 173, 61, 62, 63, 64, 65, 66, 68, 174, 42, 175, 176, 72, 177, 73, 74, 75, 178, 46, 179, 180, 79, 80, 181, 648, 649, 650, 651, 652, 653, 654, 655, 578, 579, 580, 581, 582, 583, 584, 541, 542, 543, 251, 252, 253, 656, 585, 586, 587, 588, 589, 590, 591, 592, 593, 594, 595, 596, 597, 598, 599, 600, 601, 602, 603, 276, 277, 278, 279, 280, 281, 282, 283, 284, 285, 286, 287, 288, 289, 290, 291, 292, 293, 294, 604, 605, 606, 607, 608, 433, 434, 435, 609, 326, 327, 328, 138, 139, 140, 141, 142, 143, 144, 145, 146, 147, 148, 149, 150, 151, 152, 153, 329, 330, 331, 332, 544, 545, 546, 1532, 1533, 1534, 1535, 1536, 1537, 1551, 1552, 1553, 1554, 1555, 1562, 1563, 1564, 1565, 1566, 1567, 1568, 1569, 1570, 1571, 1572, 1573, 1574, 1575, 1576, 1577, 1578, 1579, 1580] rfl (by decide +kernel)) (goodIn_sub (fun _ h => List.mem_append_left _ (List.mem_append_left _ (List.mem_append_right _ h))) (by decide +kernel))
set_option maxRecDepth 20000 in
theorem gL_law_L_servable : GoodIn wsL_law (va_wsS RL 390 yL_servable wsL_servable) := goodIn_app (goodIn_r _ [1290, 1291, 118] rfl (by decide +kernel)) ggL_law_L_servable
set_option maxRecDepth 20000 in
theorem ggL_law_X9_servable : GoodIn wsL_law wsX9_servable := goodIn_r _ [1300, 115, 107, 196, 197, 198, 5, 199, 192, 193, 194, 195, 403, 404, 405, 406, 108, 661, 662, 663, 664, 665, 666, 667, 668, 614, 615, 616, 617, 559, 560, 561, 562, 618, 619, 620, 621, 212, 213, 214, 215, 622, 623, 624, 625, 114, 626, 627, 628, 629, 630, 631, 632, 633, 634, 635, 636, 299, 300, 301, 302, 303, 304, 305, 306, 307, 308, 309, 310, 221, 222, 223, 224, 311, 312, 313, 314, 637, 638, 639, 640, 337, 338, 339, 340, 200, 201, 202, 203, 204, 205, 206, 207, 208, 209, 210, 211, 189, 190, 191, 341, 342, 343, 344, 225, 226, 227, 228, 563, 564, 565, 566, 411, 412, 413, 414, 1538, 1539, 1540, 1541, 1542, 1543, 1544, 1545, 1546, 1547, 1548, 1549, 1550] rfl (by decide +kernel)
set_option maxRecDepth 20000 in
theorem gL_law_X9_servable : GoodIn wsL_law (wsV RL 392 RX9 yX9_servable wsX9_servable) := goodIn_app (goodIn_r _ [1297, 1298, 1299, 5] rfl (by decide +kernel)) ggL_law_X9_servable
set_option maxRecDepth 20000 in
theorem ggL_law_X8_ticks : GoodIn wsL_law wsX8_ticks := goodIn_r _ [1304, 16, 1532, 1533, 1534, 1535, 1536, 1537, 1551, 1552, 1553, 1554, 1555, 1568, 1569, 1570, 1571, 1572, 1573, 1574] rfl (by decide +kernel)
set_option maxRecDepth 20000 in
theorem gL_law_X8_ticks : GoodIn wsL_law (wsV RL 393 RX8 yX8_ticks wsX8_ticks) := goodIn_app (goodIn_r _ [1301, 1302, 1303, 2] rfl (by decide +kernel)) ggL_law_X8_ticks
set_option maxRecDepth 20000 in
theorem ggL_law_X9_ticks : GoodIn wsL_law wsX9_ticks := goodIn_r _ [1308, 115, 107, 1538, 1539, 1540, 1541, 1542, 1543, 1544, 1545, 1546, 1547, 1548, 1549, 1550] rfl (by decide +kernel)
set_option maxRecDepth 20000 in
theorem gL_law_X9_ticks : GoodIn wsL_law (wsV RL 396 RX9 yX9_ticks wsX9_ticks) := goodIn_app (goodIn_r _ [1305, 1306, 1307, 5] rfl (by decide +kernel)) ggL_law_X9_ticks
set_option maxRecDepth 20000 in
theorem ggL_law_X8_fetches : GoodIn wsL_law wsX8_fetches := goodIn_r _ [1312, 16, 1532, 1533, 1534, 1535, 1536, 1537, 1551, 1552, 1553, 1554, 1555, 1568, 1569, 1570, 1571, 1572, 1573, 1574] rfl (by decide +kernel)
set_option maxRecDepth 20000 in
theorem gL_law_X8_fetches : GoodIn wsL_law (wsV RL 397 RX8 yX8_fetches wsX8_fetches) := goodIn_app (goodIn_r _ [1309, 1310, 1311, 2] rfl (by decide +kernel)) ggL_law_X8_fetches
set_option maxRecDepth 20000 in
theorem ggL_law_X9_fetches : GoodIn wsL_law wsX9_fetches := goodIn_r _ [1316, 115, 107, 1538, 1539, 1540, 1541, 1542, 1543, 1544, 1545, 1546, 1547, 1548, 1549, 1550] rfl (by decide +kernel)
set_option maxRecDepth 20000 in
theorem gL_law_X9_fetches : GoodIn wsL_law (wsV RL 400 RX9 yX9_fetches wsX9_fetches) := goodIn_app (goodIn_r _ [1313, 1314, 1315, 5] rfl (by decide +kernel)) ggL_law_X9_fetches
set_option maxRecDepth 20000 in
theorem ggL_law_X8_served : GoodIn wsL_law wsX8_served := goodIn_r _ [1320, 16, 1532, 1533, 1534, 1535, 1536, 1537, 1551, 1552, 1553, 1554, 1555] rfl (by decide +kernel)
set_option maxRecDepth 20000 in
theorem gL_law_X8_served : GoodIn wsL_law (wsV RL 401 RX8 yX8_served wsX8_served) := goodIn_app (goodIn_r _ [1317, 1318, 1319, 2] rfl (by decide +kernel)) ggL_law_X8_served
set_option maxRecDepth 20000 in
theorem ggL_law_X9_served : GoodIn wsL_law wsX9_served := goodIn_r _ [1324, 115, 107, 1538, 1539, 1540, 1541, 1542, 1543, 1544, 1545, 1546, 1547, 1548, 1549, 1550] rfl (by decide +kernel)
set_option maxRecDepth 20000 in
theorem gL_law_X9_served : GoodIn wsL_law (wsV RL 404 RX9 yX9_served wsX9_served) := goodIn_app (goodIn_r _ [1321, 1322, 1323, 5] rfl (by decide +kernel)) ggL_law_X9_served
set_option maxRecDepth 20000 in
theorem ggL_law_L_fetchTicks : GoodIn wsL_law wsL_fetchTicks := goodIn_ca (goodIn_ca (goodIn_r _ [1327, 236, 121, 1328, 1329, 1330, 2, 1331, 16, 241, 242, 243, 244, 245, 246, 134, 135, 136, 137, 126, 127, 280, 15, 281, 282, 35, 39, 283, 284, 285, 286, 287, 34, 288, 1532, 1533, 1534, 1535, 1536, 1537, 1551, 1552, 1553, 1554, 1555, 1562, 1563, 1564, 1565, 1566, 1567, 1568, 1569, 1570, 1571, 1572, 1573, 1574] rfl (by decide +kernel)) (goodIn_sub (fun _ h => List.mem_append_right _ h) (by decide +kernel))) (goodIn_sub (fun _ h => List.mem_append_left _ (List.mem_append_left _ (List.mem_append_right _ h))) (by decide +kernel))
set_option maxRecDepth 20000 in
theorem gL_law_L_fetchTicks : GoodIn wsL_law (va_wsS RL 405 yL_fetchTicks wsL_fetchTicks) := goodIn_app (goodIn_r _ [1325, 1326, 118] rfl (by decide +kernel)) ggL_law_L_fetchTicks
set_option maxRecDepth 20000 in
theorem ggL_law_X9_fetchTicks : GoodIn wsL_law wsX9_fetchTicks := goodIn_r _ [1335, 115, 261, 262, 263, 5, 264, 107, 189, 190, 191, 192, 193, 194, 195, 196, 197, 198, 199, 303, 304, 305, 306, 212, 213, 214, 215, 307, 308, 309, 310, 1538, 1539, 1540, 1541, 1542, 1543, 1544, 1545, 1546, 1547, 1548, 1549, 1550] rfl (by decide +kernel)
set_option maxRecDepth 20000 in
theorem gL_law_X9_fetchTicks : GoodIn wsL_law (wsV RL 407 RX9 yX9_fetchTicks wsX9_fetchTicks) := goodIn_app (goodIn_r _ [1332, 1333, 1334, 5] rfl (by decide +kernel)) ggL_law_X9_fetchTicks
set_option maxRecDepth 20000 in
theorem ggL_law_L_heaviest : GoodIn wsL_law wsL_heaviest := goodIn_ca (goodIn_r _ [1338, 121, 1339, 1340, 1341, 2, 1342, 16, 1343, 1344, 1345, 1346, 126, 127, 1347, 15, 1348, 1349, 35, 694, 430, 431, 432, 43, 251, 34, 252, 253, 57, 1532, 1533, 1534, 1535, 1536, 1537, 1551, 1552, 1553, 1554, 1555, 1562, 1563, 1564, 1565, 1566, 1567, 1575, 1576, 1577, 1578] rfl (by decide +kernel)) (goodIn_sub (fun _ h => List.mem_append_left _ (List.mem_append_left _ (List.mem_append_right _ h))) (by decide +kernel))
set_option maxRecDepth 20000 in
theorem gL_law_L_heaviest : GoodIn wsL_law (va_wsS RL 408 yL_heaviest wsL_heaviest) := goodIn_app (goodIn_r _ [1336, 1337, 118] rfl (by decide +kernel)) ggL_law_L_heaviest
set_option maxRecDepth 20000 in
theorem ggL_law_X9_heaviest : GoodIn wsL_law wsX9_heaviest := goodIn_r _ [1353, 115, 107, 192, 193, 194, 5, 195, 1354, 1355, 1356, 1357, 446, 447, 448, 449, 212, 213, 214, 215, 1538, 1539, 1540, 1541, 1542, 1543, 1544, 1545, 1546, 1547, 1548, 1549, 1550] rfl (by decide +kernel)
set_option maxRecDepth 20000 in
theorem gL_law_X9_heaviest : GoodIn wsL_law (wsV RL 410 RX9 yX9_heaviest wsX9_heaviest) := goodIn_app (goodIn_r _ [1350, 1351, 1352, 5] rfl (by decide +kernel)) ggL_law_X9_heaviest
set_option maxRecDepth 20000 in
theorem ggL_law_L_mostFetched : GoodIn wsL_law wsL_mostFetched := goodIn_ca (goodIn_r _ [1360, 121, 1361, 1362, 1363, 2, 1364, 16, 1343, 1344, 1345, 1346, 126, 127, 382, 34, 383, 384, 52, 56, 1532, 1533, 1534, 1535, 1536, 1537, 1551, 1552, 1553, 1554, 1555, 1562, 1563, 1564, 1565, 1566, 1567] rfl (by decide +kernel)) (goodIn_sub (fun _ h => List.mem_append_left _ (List.mem_append_left _ (List.mem_append_right _ h))) (by decide +kernel))
set_option maxRecDepth 20000 in
theorem gL_law_L_mostFetched : GoodIn wsL_law (va_wsS RL 411 yL_mostFetched wsL_mostFetched) := goodIn_app (goodIn_r _ [1358, 1359, 118] rfl (by decide +kernel)) ggL_law_L_mostFetched
set_option maxRecDepth 20000 in
theorem ggL_law_X9_mostFetched : GoodIn wsL_law wsX9_mostFetched := goodIn_r _ [1368, 115, 107, 192, 193, 194, 5, 195, 1369, 1370, 1371, 1372, 212, 213, 214, 215, 1538, 1539, 1540, 1541, 1542, 1543, 1544, 1545, 1546, 1547, 1548, 1549, 1550] rfl (by decide +kernel)
set_option maxRecDepth 20000 in
theorem gL_law_X9_mostFetched : GoodIn wsL_law (wsV RL 413 RX9 yX9_mostFetched wsX9_mostFetched) := goodIn_app (goodIn_r _ [1365, 1366, 1367, 5] rfl (by decide +kernel)) ggL_law_X9_mostFetched
set_option maxRecDepth 20000 in
theorem ggL_law_X8_usedWays : GoodIn wsL_law wsX8_usedWays := goodIn_r _ [1376, 16, 1377, 34, 1378, 1379, 52, 55, 56, 1380, 287, 288, 1532, 1533, 1534, 1535, 1536, 1537, 1551, 1552, 1553, 1554, 1555, 1562, 1563, 1564, 1565, 1566, 1567] rfl (by decide +kernel)
set_option maxRecDepth 20000 in
theorem gL_law_X8_usedWays : GoodIn wsL_law (wsV RL 414 RX8 yX8_usedWays wsX8_usedWays) := goodIn_app (goodIn_r _ [1373, 1374, 1375, 2] rfl (by decide +kernel)) ggL_law_X8_usedWays
set_option maxRecDepth 20000 in
theorem ggL_law_X9_usedWays : GoodIn wsL_law wsX9_usedWays := goodIn_r _ [1384, 115, 1385, 1386, 1387, 5, 1388, 107, 212, 213, 214, 215, 307, 308, 309, 310, 1538, 1539, 1540, 1541, 1542, 1543, 1544, 1545, 1546, 1547, 1548, 1549, 1550] rfl (by decide +kernel)
set_option maxRecDepth 20000 in
theorem gL_law_X9_usedWays : GoodIn wsL_law (wsV RL 417 RX9 yX9_usedWays wsX9_usedWays) := goodIn_app (goodIn_r _ [1381, 1382, 1383, 5] rfl (by decide +kernel)) ggL_law_X9_usedWays
set_option maxRecDepth 20000 in
theorem ggL_law_X8_meanWay : GoodIn wsL_law wsX8_meanWay := goodIn_r _ [1392, 16, 1377, 34, 1378, 1379, 52, 55, 56, 1380, 287, 288, 1393, 1394, 1395, 1396, 1397, 2, 1398, 1532, 1533, 1534, 1535, 1536, 1537, 1551, 1552, 1553, 1554, 1555, 1562, 1563, 1564, 1565, 1566, 1567] rfl (by decide +kernel)
set_option maxRecDepth 20000 in
theorem gL_law_X8_meanWay : GoodIn wsL_law (wsV RL 418 RX8 yX8_meanWay wsX8_meanWay) := goodIn_app (goodIn_r _ [1389, 1390, 1391, 2] rfl (by decide +kernel)) ggL_law_X8_meanWay
set_option maxRecDepth 20000 in
theorem ggL_law_X9_meanWay : GoodIn wsL_law wsX9_meanWay := goodIn_r _ [1402, 115, 1403, 1404, 1405, 5, 1406, 107, 212, 213, 214, 215, 1385, 1386, 1387, 1388, 307, 308, 309, 310, 1538, 1539, 1540, 1541, 1542, 1543, 1544, 1545, 1546, 1547, 1548, 1549, 1550] rfl (by decide +kernel)
set_option maxRecDepth 20000 in
theorem gL_law_X9_meanWay : GoodIn wsL_law (wsV RL 422 RX9 yX9_meanWay wsX9_meanWay) := goodIn_app (goodIn_r _ [1399, 1400, 1401, 5] rfl (by decide +kernel)) ggL_law_X9_meanWay
set_option maxRecDepth 20000 in
theorem ggL_law_X8_meanTicks : GoodIn wsL_law wsX8_meanTicks := goodIn_r _ [1410, 16, 1396, 1397, 2, 1398, 1532, 1533, 1534, 1535, 1536, 1537, 1551, 1552, 1553, 1554, 1555, 1568, 1569, 1570, 1571, 1572, 1573, 1574] rfl (by decide +kernel)
set_option maxRecDepth 20000 in
theorem gL_law_X8_meanTicks : GoodIn wsL_law (wsV RL 423 RX8 yX8_meanTicks wsX8_meanTicks) := goodIn_app (goodIn_r _ [1407, 1408, 1409, 2] rfl (by decide +kernel)) ggL_law_X8_meanTicks
set_option maxRecDepth 20000 in
theorem ggL_law_X9_meanTicks : GoodIn wsL_law wsX9_meanTicks := goodIn_r _ [1414, 115, 1415, 1416, 1417, 5, 1418, 107, 1538, 1539, 1540, 1541, 1542, 1543, 1544, 1545, 1546, 1547, 1548, 1549, 1550] rfl (by decide +kernel)
set_option maxRecDepth 20000 in
theorem gL_law_X9_meanTicks : GoodIn wsL_law (wsV RL 426 RX9 yX9_meanTicks wsX9_meanTicks) := goodIn_app (goodIn_r _ [1411, 1412, 1413, 5] rfl (by decide +kernel)) ggL_law_X9_meanTicks
set_option maxRecDepth 20000 in
theorem ggL_law_X8_digest : GoodIn wsL_law wsX8_digest := goodIn_ca (goodIn_r _ [1422, 1423, 16, 1424, 1425, 1426, 2, 1427, 1428, 790, 791, 792, 1429, 1430, 1431, 1432, 1433, 801, 802, 803, 241, 242, 243, 244, 245, 246, 1434, 816, 817, 818, 1435, 827, 828, 829, 1436, 838, 839, 840, 1437, 1438, 1439, 1440, 849, 850, 851, 422, 423, 424, 425, 251, 34, 252, 253, 57, 1441, 860, 861, 862, 430, 15, 431, 432, 35, 43, 1442, 871, 872, 873, 1443, 1444, 1445, 1446, 896, 897, 898, 52, 53, 55, 54, 1447, 915, 916, 917, 918, 919, 920, 141, 142, 143, 144, 145, 146, 147, 151, 152, 153, 1448, 930, 931, 932, 933, 934, 935, 138, 139, 140, 148, 149, 150, 1449, 955, 956, 957, 356, 357, 358, 359, 958, 959, 960, 961, 962, 285, 963, 1450, 973, 974, 975, 1451, 981, 982, 983, 1452, 1453, 1454, 1455, 1456, 1055, 1056, 1057, 1457, 1066, 1067, 1068, 1069, 1070, 1071, 250, 1458, 1080, 1081, 1082, 1459, 1091, 1092, 1093, 1094, 1095, 1096, 1460, 1109, 1110, 1111, 1461, 1120, 1121, 1122, 1123, 1124, 1125, 1126, 1462, 1136, 1137, 1138, 1463, 1003, 1004, 1005, 1006, 1007, 1008, 694, 1464, 1465, 1466, 1467, 1468, 1018, 1019, 1020, 1469, 1029, 1030, 1031, 1032, 1033, 1034, 1035, 1470, 1044, 1045, 1046, 1471, 1472, 1473, 1474, 1475, 1148, 1149, 1150, 1476, 1159, 1160, 1161, 533, 534, 535, 536, 541, 46, 542, 543, 80, 578, 579, 580, 581, 582, 583, 584, 47, 589, 590, 591, 592, 593, 594, 595, 596, 597, 598, 599, 600, 601, 602, 1195, 1211, 1212, 1213, 1214, 28, 1215, 1216, 1217, 1218, 1219, 1220, 1221, 1222, 1223, 1224, 1225, 1226, 1278, 1279, 1280, 1281, 17, 161, 162, 163, 39, 48, 164, 165, 166, 167, 168, 169, 170, 56, 171, 38, 172, 173, 61, 62, 63, 64, 65, 66, 68, 174, 42, 175, 176, 72, 177, 73, 74, 75, 178, 179, 180, 79, 181, 585, 586, 587, 588, 603, 276, 277, 278, 279, 280, 281, 282, 283, 284, 286, 287, 288, 289, 290, 291, 292, 293, 294, 604, 605, 606, 607, 608, 433, 434, 435, 609, 326, 327, 328, 329, 330, 331, 332, 544, 545, 546, 1477, 1478, 1479, 1480, 1481, 1302, 1303, 1304, 1482, 1310, 1311, 1312, 1483, 1318, 1319, 1320, 1347, 1348, 1349, 382, 383, 384, 1484, 1374, 1375, 1376, 1377, 1378, 1379, 1380, 1485, 782, 783, 784, 21, 1486, 1408, 1409, 1410, 1396, 1397, 1398, 1487, 1488, 1489, 1490, 1491, 1492, 1493, 1390, 1391, 1392, 1393, 1394, 1395, 1494, 1495, 1496, 1497, 25, 1532, 1533, 1534, 1535, 1536, 1537, 1551, 1552, 1553, 1554, 1555, 1562, 1563, 1564, 1565, 1566, 1567, 1575, 1576, 1577, 1578, 1568, 1569, 1570, 1571, 1572, 1573, 1574, 1579, 1580, 1556, 1557, 1558, 1559, 1560, 1561] rfl (by decide +kernel)) (goodIn_sub (fun _ h => List.mem_append_right _ h) (by decide +kernel))
set_option maxRecDepth 20000 in
theorem gL_law_X8_digest : GoodIn wsL_law (wsV RL 427 RX8 yX8_digest wsX8_digest) := goodIn_app (goodIn_r _ [1419, 1420, 1421, 2] rfl (by decide +kernel)) ggL_law_X8_digest
set_option maxRecDepth 20000 in
theorem ggL_law_X9_digest : GoodIn wsL_law wsX9_digest := goodIn_r _ [1501, 115, 107, 1502, 1503, 220, 111, 507, 112, 1504, 1505, 1506, 5, 1507, 212, 213, 214, 215, 446, 447, 448, 449, 1508, 1509, 1510, 1511, 208, 209, 210, 211, 189, 190, 191, 925, 926, 927, 928, 200, 201, 202, 203, 204, 205, 206, 207, 968, 969, 970, 971, 1512, 1513, 1514, 1515, 618, 619, 620, 621, 1101, 1102, 1103, 1104, 1131, 1132, 1133, 1134, 1143, 1144, 1145, 1146, 1013, 1014, 1015, 1016, 1516, 1517, 1518, 1519, 559, 560, 561, 562, 614, 615, 616, 617, 626, 627, 628, 629, 630, 631, 632, 633, 634, 635, 636, 1286, 1287, 1288, 1289, 196, 197, 198, 199, 1253, 1254, 1255, 1256, 403, 404, 405, 406, 108, 622, 623, 624, 625, 114, 299, 300, 301, 302, 303, 304, 305, 306, 307, 308, 309, 310, 221, 222, 223, 224, 311, 312, 313, 314, 637, 638, 639, 640, 337, 338, 339, 340, 341, 342, 343, 344, 225, 226, 227, 228, 563, 564, 565, 566, 411, 412, 413, 414, 1354, 1355, 1356, 1357, 1369, 1370, 1371, 1372, 1385, 1386, 1387, 1388, 1415, 1416, 1417, 1418, 1520, 1521, 1522, 1523, 1524, 1525, 1526, 1527, 1528, 1529, 1530, 1531, 1403, 1404, 1405, 1406, 1538, 1539, 1540, 1541, 1542, 1543, 1544, 1545, 1546, 1547, 1548, 1549, 1550] rfl (by decide +kernel)
set_option maxRecDepth 20000 in
theorem gL_law_X9_digest : GoodIn wsL_law (wsV RL 431 RX9 yX9_digest wsX9_digest) := goodIn_app (goodIn_r _ [1498, 1499, 1500, 5] rfl (by decide +kernel)) ggL_law_X9_digest
