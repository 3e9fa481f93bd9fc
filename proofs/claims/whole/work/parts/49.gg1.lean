set_option maxRecDepth 20000 in
theorem gL_law_X9_serve : GoodIn wsL_law (wsV RL 224 RX9 yX9_serve wsX9_serve) := goodIn_app (goodIn_r _ [610, 611, 612, 5] rfl (by decide +kernel)) ggL_law_X9_serve
set_option maxRecDepth 20000 in
theorem ggL_law_L_serveAll : GoodIn wsL_law wsL_serveAll := goodIn_ca (goodIn_r _ [643, 121, 644, 645, 646, 2, 647, 21, 16, 134, 135, 136, 137, 126, 127, 154, 20, 155, 156, 84, 86, 85, 14, 15, 157, 158, 159, 160, 29, 30, 31, 11, 12, 32, 33, 34, 35, 36, 37, 38, 39, 40, 41, 42, 43, 44, 45, 46, 47, 48, 49, 50, 51, 52, 53, 26, 54, 55, 56, 57, 58, 59, 60, 61, 62, 63, 64, 65, 66, 67, 68, 69, 70, 71, 72, 73, 74, 75, 76, 77, 78, 79, 80, 161, 162, 163, 164, 165, 166, 167, 168, 169, 170, 171, 172, 173, 174, 175, 176, 177, 178, 179, 180, 181, 648, 649, 650, 651, 652, 653, 654, 655, 578, 579, 580, 581, 582, 583, 584, 541, 542, 543, 251, 252, 253, 656, 585, 586, 587, 588, 589, 590, 591, 592, 593, 594, 595, 596, 597, 598, 599, 600, 601, 602, 603, 276, 277, 278, 279, 280, 281, 282, 283, 284, 285, 286, 287, 288, 289, 290, 291, 292, 293, 294, 604, 605, 606, 607, 608, 433, 434, 435, 609, 326, 327, 328, 138, 139, 140, 141, 142, 143, 144, 145, 146, 147, 148, 149, 150, 151, 152, 153, 329, 330, 331, 332, 544, 545, 546, 1532, 1533, 1534, 1535, 1536, 1537, 1551, 1552, 1553, 1554, 1555, 1562, 1563, 1564, 1565, 1566, 1567, 1556, 1557, 1558, 1568, 1569, 1570, 1571, 1572, 1573, 1574, 1575, 1576, 1577, 1578, 1579, 1580] rfl (by decide +kernel)) (goodIn_sub (fun _ h => List.mem_append_left _ (List.mem_append_left _ (List.mem_append_right _ h))) (by decide +kernel))
set_option maxRecDepth 20000 in
theorem gL_law_L_serveAll : GoodIn wsL_law (va_wsS RL 225 yL_serveAll wsL_serveAll) := goodIn_app (goodIn_r _ [641, 642, 118] rfl (by decide +kernel)) ggL_law_L_serveAll
set_option maxRecDepth 20000 in
theorem ggL_law_X9_serveAll : GoodIn wsL_law wsX9_serveAll := goodIn_r _ [660, 115, 196, 197, 198, 5, 199, 107, 192, 193, 194, 195, 216, 217, 218, 219, 220, 109, 661, 662, 663, 664, 665, 666, 667, 668, 614, 615, 616, 617, 559, 560, 561, 562, 618, 619, 620, 621, 212, 213, 214, 215, 622, 623, 624, 625, 114, 626, 627, 628, 629, 630, 631, 632, 633, 634, 635, 636, 299, 300, 301, 302, 303, 304, 305, 306, 307, 308, 309, 310, 221, 222, 223, 224, 311, 312, 313, 314, 637, 638, 639, 640, 337, 338, 339, 340, 200, 201, 202, 203, 204, 205, 206, 207, 208, 209, 210, 211, 189, 190, 191, 341, 342, 343, 344, 225, 226, 227, 228, 563, 564, 565, 566, 1538, 1539, 1540, 1541, 1542, 1543, 1544, 1545, 1546, 1547, 1548, 1549, 1550] rfl (by decide +kernel)
set_option maxRecDepth 20000 in
theorem gL_law_X9_serveAll : GoodIn wsL_law (wsV RL 227 RX9 yX9_serveAll wsX9_serveAll) := goodIn_app (goodIn_r _ [657, 658, 659, 5] rfl (by decide +kernel)) ggL_law_X9_serveAll
set_option maxRecDepth 20000 in
theorem ggL_law_L_changeLeast : GoodIn wsL_law wsL_changeLeast := goodIn_ca (goodIn_ca (goodIn_r _ [671, 236, 120, 672, 673, 674, 2, 675, 132, 133, 21, 16, 422, 423, 424, 425, 245, 246, 154, 20, 155, 156, 84, 86, 85, 14, 15, 157, 158, 159, 160, 29, 30, 31, 11, 12, 32, 33, 34, 35, 36, 37, 38, 39, 40, 41, 42, 43, 44, 45, 46, 47, 48, 49, 50, 51, 52, 53, 26, 54, 55, 56, 57, 58, 59, 60, 61, 62, 63, 64, 65, 66, 67, 68, 69, 70, 71, 72, 73, 74, 75, 76, 77, 78, 79, 80, 161, 162, 163, 164, 165, 166, 167, 168, 169, 170, 171, 172, 173, 174, 175, 176, 177, 178, 179, 180, 181, 1532, 1533, 1534, 1535, 1536, 1537, 1551, 1552, 1553, 1554, 1555, 1575, 1576, 1577, 1578, 1556, 1557, 1558, 1562, 1563, 1564, 1565, 1566, 1567, 1568, 1569, 1570, 1571, 1572, 1573, 1574, 1579, 1580] rfl (by decide +kernel)) (goodIn_sub (fun _ h => List.mem_append_left _ (List.mem_append_right _ h)) (by decide +kernel))) (goodIn_sub (fun _ h => List.mem_append_right _ h) (by decide +kernel))
set_option maxRecDepth 20000 in
theorem gL_law_L_changeLeast : GoodIn wsL_law (va_wsS RL 228 yL_changeLeast wsL_changeLeast) := goodIn_app (goodIn_r _ [669, 670, 118] rfl (by decide +kernel)) ggL_law_L_changeLeast
set_option maxRecDepth 20000 in
theorem ggL_law_X9_changeLeast : GoodIn wsL_law wsX9_changeLeast := goodIn_r _ [679, 115, 440, 441, 5, 442, 189, 190, 191, 192, 193, 194, 195, 216, 217, 218, 219, 220, 109, 107, 680, 681, 682, 683, 1538, 1539, 1540, 1541, 1542, 1543, 1544, 1545, 1546, 1547, 1548, 1549, 1550] rfl (by decide +kernel)
set_option maxRecDepth 20000 in
theorem gL_law_X9_changeLeast : GoodIn wsL_law (wsV RL 230 RX9 yX9_changeLeast wsX9_changeLeast) := goodIn_app (goodIn_r _ [676, 677, 678, 5] rfl (by decide +kernel)) ggL_law_X9_changeLeast
set_option maxRecDepth 20000 in
theorem ggL_law_L_changeWeight : GoodIn wsL_law wsL_changeWeight := goodIn_ca (goodIn_ca (goodIn_ca (goodIn_r _ [686, 236, 120, 121, 687, 688, 689, 2, 690, 132, 133, 126, 127, 16, 21, 422, 423, 424, 425, 245, 246, 691, 15, 692, 693, 43, 35, 694, 430, 431, 432, 251, 34, 252, 253, 57, 154, 20, 155, 156, 84, 86, 85, 14, 157, 158, 159, 160, 29, 30, 31, 11, 12, 32, 33, 36, 37, 38, 39, 40, 41, 42, 44, 45, 46, 47, 48, 49, 50, 51, 52, 53, 26, 54, 55, 56, 58, 59, 60, 61, 62, 63, 64, 65, 66, 67, 68, 69, 70, 71, 72, 73, 74, 75, 76, 77, 78, 79, 80, 161, 162, 163, 164, 165, 166, 167, 168, 169, 170, 171, 172, 173, 174, 175, 176, 177, 178, 179, 180, 181, 1532, 1533, 1534, 1535, 1536, 1537, 1551, 1552, 1553, 1554, 1555, 1575, 1576, 1577, 1578, 1562, 1563, 1564, 1565, 1566, 1567, 1556, 1557, 1558, 1568, 1569, 1570, 1571, 1572, 1573, 1574, 1579, 1580] rfl (by decide +kernel)) (goodIn_sub (fun _ h => List.mem_append_left _ (List.mem_append_right _ h)) (by decide +kernel))) (goodIn_sub (fun _ h => List.mem_append_left _ (List.mem_append_left _ (List.mem_append_right _ h))) (by decide +kernel))) (goodIn_sub (fun _ h => List.mem_append_right _ h) (by decide +kernel))
set_option maxRecDepth 20000 in
theorem gL_law_L_changeWeight : GoodIn wsL_law (va_wsS RL 231 yL_changeWeight wsL_changeWeight) := goodIn_app (goodIn_r _ [684, 685, 118] rfl (by decide +kernel)) ggL_law_L_changeWeight
set_option maxRecDepth 20000 in
theorem ggL_law_X9_changeWeight : GoodIn wsL_law wsX9_changeWeight := goodIn_r _ [698, 115, 440, 441, 5, 442, 189, 190, 191, 192, 193, 194, 195, 699, 700, 701, 702, 107, 446, 447, 448, 449, 212, 213, 214, 215, 216, 217, 218, 219, 220, 109, 680, 681, 682, 683, 1538, 1539, 1540, 1541, 1542, 1543, 1544, 1545, 1546, 1547, 1548, 1549, 1550] rfl (by decide +kernel)
set_option maxRecDepth 20000 in
theorem gL_law_X9_changeWeight : GoodIn wsL_law (wsV RL 233 RX9 yX9_changeWeight wsX9_changeWeight) := goodIn_app (goodIn_r _ [695, 696, 697, 5] rfl (by decide +kernel)) ggL_law_X9_changeWeight
set_option maxRecDepth 20000 in
theorem ggL_law_X8_turnRule : GoodIn wsL_law wsX8_turnRule := goodIn_r _ [706, 21, 16, 154, 20, 155, 156, 84, 86, 85, 14, 15, 157, 158, 159, 160, 29, 30, 31, 11, 12, 32, 33, 34, 35, 36, 37, 38, 39, 40, 41, 42, 43, 44, 45, 46, 47, 48, 49, 50, 51, 52, 53, 26, 54, 55, 56, 57, 58, 59, 60, 61, 62, 63, 64, 65, 66, 67, 68, 69, 70, 71, 72, 73, 74, 75, 76, 77, 78, 79, 80, 161, 162, 163, 164, 165, 166, 167, 168, 169, 170, 171, 172, 173, 174, 175, 176, 177, 178, 179, 180, 181, 1532, 1533, 1534, 1535, 1536, 1537, 1551, 1552, 1553, 1554, 1555, 1568, 1569, 1570, 1571, 1572, 1573, 1574, 1556, 1557, 1558, 1562, 1563, 1564, 1565, 1566, 1567, 1575, 1576, 1577, 1578, 1579, 1580] rfl (by decide +kernel)
set_option maxRecDepth 20000 in
theorem gL_law_X8_turnRule : GoodIn wsL_law (wsV RL 234 RX8 yX8_turnRule wsX8_turnRule) := goodIn_app (goodIn_r _ [703, 704, 705, 2] rfl (by decide +kernel)) ggL_law_X8_turnRule
set_option maxRecDepth 20000 in
theorem ggL_law_X9_turnRule : GoodIn wsL_law wsX9_turnRule := goodIn_r _ [710, 115, 107, 216, 217, 218, 5, 219, 220, 109, 1538, 1539, 1540, 1541, 1542, 1543, 1544, 1545, 1546, 1547, 1548, 1549, 1550] rfl (by decide +kernel)
set_option maxRecDepth 20000 in
theorem gL_law_X9_turnRule : GoodIn wsL_law (wsV RL 238 RX9 yX9_turnRule wsX9_turnRule) := goodIn_app (goodIn_r _ [707, 708, 709, 5] rfl (by decide +kernel)) ggL_law_X9_turnRule
set_option maxRecDepth 20000 in
theorem ggL_law_L_append : GoodIn wsL_law wsL_append := goodIn_ca (goodIn_ca (goodIn_r _ [713, 120, 121, 714, 715, 716, 2, 717, 132, 133, 126, 127, 25, 1532, 1533, 1534, 1535, 1536, 1537, 1559, 1560, 1561] rfl (by decide +kernel)) (goodIn_sub (fun _ h => List.mem_append_left _ (List.mem_append_right _ h)) (by decide +kernel))) (goodIn_sub (fun _ h => List.mem_append_left _ (List.mem_append_left _ (List.mem_append_right _ h))) (by decide +kernel))
set_option maxRecDepth 20000 in
theorem gL_law_L_append : GoodIn wsL_law (va_wsS RL 239 yL_append wsL_append) := goodIn_app (goodIn_r _ [711, 712, 118] rfl (by decide +kernel)) ggL_law_L_append
set_option maxRecDepth 20000 in
theorem ggL_law_X9_append : GoodIn wsL_law wsX9_append := goodIn_r _ [721, 115, 507, 112, 189, 190, 5, 191, 192, 193, 194, 195, 1538, 1539, 1540, 1541, 1542, 1543, 1544, 1545, 1546, 1547, 1548, 1549, 1550] rfl (by decide +kernel)
set_option maxRecDepth 20000 in
theorem gL_law_X9_append : GoodIn wsL_law (wsV RL 241 RX9 yX9_append wsX9_append) := goodIn_app (goodIn_r _ [718, 719, 720, 5] rfl (by decide +kernel)) ggL_law_X9_append
set_option maxRecDepth 20000 in
theorem ggL_law_X8_clearBuffer : GoodIn wsL_law wsX8_clearBuffer := goodIn_r _ [725, 25, 1532, 1533, 1534, 1535, 1536, 1537, 1559, 1560, 1561] rfl (by decide +kernel)
set_option maxRecDepth 20000 in
theorem gL_law_X8_clearBuffer : GoodIn wsL_law (wsV RL 242 RX8 yX8_clearBuffer wsX8_clearBuffer) := goodIn_app (goodIn_r _ [722, 723, 724, 2] rfl (by decide +kernel)) ggL_law_X8_clearBuffer
set_option maxRecDepth 20000 in
theorem ggL_law_X9_clearBuffer : GoodIn wsL_law wsX9_clearBuffer := goodIn_r _ [729, 115, 507, 1538, 1539, 1540, 1541, 1542, 1543, 1544, 1545, 1546, 1547, 1548, 1549, 1550] rfl (by decide +kernel)
set_option maxRecDepth 20000 in
theorem gL_law_X9_clearBuffer : GoodIn wsL_law (wsV RL 245 RX9 yX9_clearBuffer wsX9_clearBuffer) := goodIn_app (goodIn_r _ [726, 727, 728, 5] rfl (by decide +kernel)) ggL_law_X9_clearBuffer
set_option maxRecDepth 20000 in
theorem ggL_law_X8_firstError : GoodIn wsL_law wsX8_firstError := goodIn_r _ [733, 25, 476, 24, 477, 478, 96, 91, 92, 479, 95, 480, 481, 100, 101, 102, 482, 483, 484, 485, 486, 487, 488, 489, 490, 491, 492, 493, 494, 495, 496, 1532, 1533, 1534, 1535, 1536, 1537, 1559, 1560, 1561, 1581, 1582, 1583] rfl (by decide +kernel)
set_option maxRecDepth 20000 in
theorem gL_law_X8_firstError : GoodIn wsL_law (wsV RL 246 RX8 yX8_firstError wsX8_firstError) := goodIn_app (goodIn_r _ [730, 731, 732, 2] rfl (by decide +kernel)) ggL_law_X8_firstError
set_option maxRecDepth 20000 in
theorem ggL_law_X9_firstError : GoodIn wsL_law wsX9_firstError := goodIn_r _ [737, 115, 507, 512, 508, 509, 510, 5, 511, 513, 113, 514, 515, 516, 517, 518, 519, 520, 521, 522, 523, 524, 525, 112, 189, 190, 191, 1538, 1539, 1540, 1541, 1542, 1543, 1544, 1545, 1546, 1547, 1548, 1549, 1550] rfl (by decide +kernel)
set_option maxRecDepth 20000 in
theorem gL_law_X9_firstError : GoodIn wsL_law (wsV RL 249 RX9 yX9_firstError wsX9_firstError) := goodIn_app (goodIn_r _ [734, 735, 736, 5] rfl (by decide +kernel)) ggL_law_X9_firstError
set_option maxRecDepth 20000 in
theorem ggL_law_L_keep : GoodIn wsL_law wsL_keep := goodIn_ca (goodIn_r _ [740, 120, 741, 742, 743, 2, 744, 21, 16, 745, 746, 747, 748, 132, 133, 749, 20, 750, 751, 87, 85, 14, 15, 29, 30, 31, 11, 12, 32, 33, 34, 35, 36, 37, 38, 39, 40, 41, 42, 43, 44, 45, 46, 47, 48, 49, 50, 51, 52, 53, 26, 54, 55, 56, 57, 58, 59, 60, 61, 62, 63, 64, 65, 66, 67, 68, 69, 70, 71, 72, 73, 74, 75, 76, 77, 78, 79, 80, 161, 162, 163, 164, 165, 166, 167, 168, 169, 170, 171, 172, 173, 174, 175, 176, 177, 178, 179, 180, 181, 1532, 1533, 1534, 1535, 1536, 1537, 1556, 1557, 1558, 1551, 1552, 1553, 1554, 1555, 1562, 1563, 1564, 1565, 1566, 1567, 1568, 1569, 1570, 1571, 1572, 1573, 1574, 1575, 1576, 1577, 1578, 1579, 1580] rfl (by decide +kernel)) (goodIn_sub (fun _ h => List.mem_append_left _ (List.mem_append_right _ h)) (by decide +kernel))
set_option maxRecDepth 20000 in
theorem gL_law_L_keep : GoodIn wsL_law (va_wsS RL 250 yL_keep wsL_keep) := goodIn_app (goodIn_r _ [738, 739, 118] rfl (by decide +kernel)) ggL_law_L_keep
set_option maxRecDepth 20000 in
theorem ggL_law_X9_keep : GoodIn wsL_law wsX9_keep := goodIn_r _ [755, 115, 110, 107, 111, 189, 190, 5, 191, 1538, 1539, 1540, 1541, 1542, 1543, 1544, 1545, 1546, 1547, 1548, 1549, 1550] rfl (by decide +kernel)
set_option maxRecDepth 20000 in
theorem gL_law_X9_keep : GoodIn wsL_law (wsV RL 253 RX9 yX9_keep wsX9_keep) := goodIn_app (goodIn_r _ [752, 753, 754, 5] rfl (by decide +kernel)) ggL_law_X9_keep
set_option maxRecDepth 20000 in
theorem ggL_law_L_goBack : GoodIn wsL_law wsL_goBack := goodIn_ca (goodIn_ca (goodIn_r _ [758, 120, 121, 759, 760, 761, 2, 762, 126, 127, 21, 16, 745, 746, 747, 748, 132, 133, 154, 20, 155, 156, 84, 86, 85, 14, 15, 157, 158, 159, 160, 29, 30, 31, 11, 12, 32, 33, 34, 35, 36, 37, 38, 39, 40, 41, 42, 43, 44, 45, 46, 47, 48, 49, 50, 51, 52, 53, 26, 54, 55, 56, 57, 58, 59, 60, 61, 62, 63, 64, 65, 66, 67, 68, 69, 70, 71, 72, 73, 74, 75, 76, 77, 78, 79, 80, 161, 162, 163, 164, 165, 166, 167, 168, 169, 170, 171, 172, 173, 174, 175, 176, 177, 178, 179, 180, 181, 1532, 1533, 1534, 1535, 1536, 1537, 1556, 1557, 1558, 1551, 1552, 1553, 1554, 1555, 1562, 1563, 1564, 1565, 1566, 1567, 1568, 1569, 1570, 1571, 1572, 1573, 1574, 1575, 1576, 1577, 1578, 1579, 1580] rfl (by decide +kernel)) (goodIn_sub (fun _ h => List.mem_append_left _ (List.mem_append_left _ (List.mem_append_right _ h))) (by decide +kernel))) (goodIn_sub (fun _ h => List.mem_append_left _ (List.mem_append_right _ h)) (by decide +kernel))
set_option maxRecDepth 20000 in
theorem gL_law_L_goBack : GoodIn wsL_law (va_wsS RL 254 yL_goBack wsL_goBack) := goodIn_app (goodIn_r _ [756, 757, 118] rfl (by decide +kernel)) ggL_law_L_goBack
set_option maxRecDepth 20000 in
theorem ggL_law_X9_goBack : GoodIn wsL_law wsX9_goBack := goodIn_r _ [766, 115, 111, 107, 110, 189, 190, 5, 191, 216, 217, 218, 219, 220, 109, 1538, 1539, 1540, 1541, 1542, 1543, 1544, 1545, 1546, 1547, 1548, 1549, 1550] rfl (by decide +kernel)
set_option maxRecDepth 20000 in
theorem gL_law_X9_goBack : GoodIn wsL_law (wsV RL 256 RX9 yX9_goBack wsX9_goBack) := goodIn_app (goodIn_r _ [763, 764, 765, 5] rfl (by decide +kernel)) ggL_law_X9_goBack
set_option maxRecDepth 20000 in
theorem ggL_law_L_undo : GoodIn wsL_law wsL_undo := goodIn_ca (goodIn_r _ [769, 121, 770, 771, 772, 2, 773, 126, 127, 21, 16, 774, 20, 775, 776, 84, 86, 161, 15, 162, 163, 35, 39, 43, 47, 48, 164, 34, 165, 166, 52, 53, 54, 167, 168, 169, 170, 55, 56, 57, 171, 38, 172, 173, 61, 62, 63, 64, 65, 66, 68, 174, 42, 175, 176, 72, 177, 73, 74, 75, 178, 46, 179, 180, 79, 80, 181, 1532, 1533, 1534, 1535, 1536, 1537, 1556, 1557, 1558, 1551, 1552, 1553, 1554, 1555, 1562, 1563, 1564, 1565, 1566, 1567, 1568, 1569, 1570, 1571, 1572, 1573, 1574, 1575, 1576, 1577, 1578, 1579, 1580] rfl (by decide +kernel)) (goodIn_sub (fun _ h => List.mem_append_left _ (List.mem_append_left _ (List.mem_append_right _ h))) (by decide +kernel))
set_option maxRecDepth 20000 in
theorem gL_law_L_undo : GoodIn wsL_law (va_wsS RL 257 yL_undo wsL_undo) := goodIn_app (goodIn_r _ [767, 768, 118] rfl (by decide +kernel)) ggL_law_L_undo
set_option maxRecDepth 20000 in
theorem ggL_law_X9_undo : GoodIn wsL_law wsX9_undo := goodIn_r _ [780, 115, 220, 107, 109, 1538, 1539, 1540, 1541, 1542, 1543, 1544, 1545, 1546, 1547, 1548, 1549, 1550] rfl (by decide +kernel)
set_option maxRecDepth 20000 in
theorem gL_law_X9_undo : GoodIn wsL_law (wsV RL 260 RX9 yX9_undo wsX9_undo) := goodIn_app (goodIn_r _ [777, 778, 779, 5] rfl (by decide +kernel)) ggL_law_X9_undo
set_option maxRecDepth 20000 in
theorem ggL_law_X8_savedStates : GoodIn wsL_law wsX8_savedStates := goodIn_r _ [784, 21, 1532, 1533, 1534, 1535, 1536, 1537, 1556, 1557, 1558] rfl (by decide +kernel)
set_option maxRecDepth 20000 in
theorem gL_law_X8_savedStates : GoodIn wsL_law (wsV RL 261 RX8 yX8_savedStates wsX8_savedStates) := goodIn_app (goodIn_r _ [781, 782, 783, 2] rfl (by decide +kernel)) ggL_law_X8_savedStates
set_option maxRecDepth 20000 in
theorem ggL_law_X9_savedStates : GoodIn wsL_law wsX9_savedStates := goodIn_r _ [788, 115, 220, 1538, 1539, 1540, 1541, 1542, 1543, 1544, 1545, 1546, 1547, 1548, 1549, 1550] rfl (by decide +kernel)
set_option maxRecDepth 20000 in
theorem gL_law_X9_savedStates : GoodIn wsL_law (wsV RL 264 RX9 yX9_savedStates wsX9_savedStates) := goodIn_app (goodIn_r _ [785, 786, 787, 5] rfl (by decide +kernel)) ggL_law_X9_savedStates
set_option maxRecDepth 20000 in
theorem ggL_law_X8_shelves : GoodIn wsL_law wsX8_shelves := goodIn_r _ [792, 16, 1532, 1533, 1534, 1535, 1536, 1537, 1551, 1552, 1553, 1554, 1555, 1562, 1563, 1564, 1565, 1566, 1567] rfl (by decide +kernel)
set_option maxRecDepth 20000 in
theorem gL_law_X8_shelves : GoodIn wsL_law (wsV RL 265 RX8 yX8_shelves wsX8_shelves) := goodIn_app (goodIn_r _ [789, 790, 791, 2] rfl (by decide +kernel)) ggL_law_X8_shelves
set_option maxRecDepth 20000 in
theorem ggL_law_X9_shelves : GoodIn wsL_law wsX9_shelves := goodIn_r _ [796, 115, 107, 1538, 1539, 1540, 1541, 1542, 1543, 1544, 1545, 1546, 1547, 1548, 1549, 1550] rfl (by decide +kernel)
set_option maxRecDepth 20000 in
theorem gL_law_X9_shelves : GoodIn wsL_law (wsV RL 268 RX9 yX9_shelves wsX9_shelves) := goodIn_app (goodIn_r _ [793, 794, 795, 5] rfl (by decide +kernel)) ggL_law_X9_shelves
