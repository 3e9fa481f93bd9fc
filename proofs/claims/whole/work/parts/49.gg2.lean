set_option maxRecDepth 20000 in
theorem ggL_law_L_heightOf : GoodIn wsL_law wsL_heightOf := goodIn_ca (goodIn_r _ [799, 236, 800, 801, 802, 2, 803, 16, 241, 242, 243, 244, 245, 246, 1532, 1533, 1534, 1535, 1536, 1537, 1551, 1552, 1553, 1554, 1555, 1562, 1563, 1564, 1565, 1566, 1567] rfl (by decide +kernel)) (goodIn_sub (fun _ h => List.mem_append_right _ h) (by decide +kernel))
set_option maxRecDepth 20000 in
theorem gL_law_L_heightOf : GoodIn wsL_law (va_wsS RL 269 yL_heightOf wsL_heightOf) := goodIn_app (goodIn_r _ [797, 798, 118] rfl (by decide +kernel)) ggL_law_L_heightOf
set_option maxRecDepth 20000 in
theorem ggL_law_X9_heightOf : GoodIn wsL_law wsX9_heightOf := goodIn_r _ [807, 808, 809, 810, 5, 811, 115, 261, 262, 263, 264, 107, 189, 190, 191, 212, 213, 214, 215, 192, 193, 194, 195, 1538, 1539, 1540, 1541, 1542, 1543, 1544, 1545, 1546, 1547, 1548, 1549, 1550] rfl (by decide +kernel)
set_option maxRecDepth 20000 in
theorem gL_law_X9_heightOf : GoodIn wsL_law (wsV RL 271 RX9 yX9_heightOf wsX9_heightOf) := goodIn_app (goodIn_r _ [804, 805, 806, 5] rfl (by decide +kernel)) ggL_law_X9_heightOf
set_option maxRecDepth 20000 in
theorem ggL_law_L_sideOf : GoodIn wsL_law wsL_sideOf := goodIn_ca (goodIn_r _ [814, 236, 815, 816, 817, 2, 818, 16, 241, 242, 243, 244, 245, 246, 1532, 1533, 1534, 1535, 1536, 1537, 1551, 1552, 1553, 1554, 1555, 1562, 1563, 1564, 1565, 1566, 1567] rfl (by decide +kernel)) (goodIn_sub (fun _ h => List.mem_append_right _ h) (by decide +kernel))
set_option maxRecDepth 20000 in
theorem gL_law_L_sideOf : GoodIn wsL_law (va_wsS RL 272 yL_sideOf wsL_sideOf) := goodIn_app (goodIn_r _ [812, 813, 118] rfl (by decide +kernel)) ggL_law_L_sideOf
set_option maxRecDepth 20000 in
theorem ggL_law_X9_sideOf : GoodIn wsL_law wsX9_sideOf := goodIn_r _ [822, 808, 809, 810, 5, 811, 115, 261, 262, 263, 264, 107, 189, 190, 191, 212, 213, 214, 215, 192, 193, 194, 195, 1538, 1539, 1540, 1541, 1542, 1543, 1544, 1545, 1546, 1547, 1548, 1549, 1550] rfl (by decide +kernel)
set_option maxRecDepth 20000 in
theorem gL_law_X9_sideOf : GoodIn wsL_law (wsV RL 274 RX9 yX9_sideOf wsX9_sideOf) := goodIn_app (goodIn_r _ [819, 820, 821, 5] rfl (by decide +kernel)) ggL_law_X9_sideOf
set_option maxRecDepth 20000 in
theorem ggL_law_L_slotOf : GoodIn wsL_law wsL_slotOf := goodIn_ca (goodIn_r _ [825, 236, 826, 827, 828, 2, 829, 16, 241, 242, 243, 244, 245, 246, 1532, 1533, 1534, 1535, 1536, 1537, 1551, 1552, 1553, 1554, 1555, 1562, 1563, 1564, 1565, 1566, 1567] rfl (by decide +kernel)) (goodIn_sub (fun _ h => List.mem_append_right _ h) (by decide +kernel))
set_option maxRecDepth 20000 in
theorem gL_law_L_slotOf : GoodIn wsL_law (va_wsS RL 275 yL_slotOf wsL_slotOf) := goodIn_app (goodIn_r _ [823, 824, 118] rfl (by decide +kernel)) ggL_law_L_slotOf
set_option maxRecDepth 20000 in
theorem ggL_law_X9_slotOf : GoodIn wsL_law wsX9_slotOf := goodIn_r _ [833, 808, 809, 810, 5, 811, 115, 261, 262, 263, 264, 107, 189, 190, 191, 212, 213, 214, 215, 192, 193, 194, 195, 1538, 1539, 1540, 1541, 1542, 1543, 1544, 1545, 1546, 1547, 1548, 1549, 1550] rfl (by decide +kernel)
set_option maxRecDepth 20000 in
theorem gL_law_X9_slotOf : GoodIn wsL_law (wsV RL 277 RX9 yX9_slotOf wsX9_slotOf) := goodIn_app (goodIn_r _ [830, 831, 832, 5] rfl (by decide +kernel)) ggL_law_X9_slotOf
set_option maxRecDepth 20000 in
theorem ggL_law_L_isAtWindow : GoodIn wsL_law wsL_isAtWindow := goodIn_ca (goodIn_r _ [836, 236, 837, 838, 839, 2, 840, 16, 241, 242, 243, 244, 245, 246, 1532, 1533, 1534, 1535, 1536, 1537, 1551, 1552, 1553, 1554, 1555, 1562, 1563, 1564, 1565, 1566, 1567] rfl (by decide +kernel)) (goodIn_sub (fun _ h => List.mem_append_right _ h) (by decide +kernel))
set_option maxRecDepth 20000 in
theorem gL_law_L_isAtWindow : GoodIn wsL_law (va_wsS RL 278 yL_isAtWindow wsL_isAtWindow) := goodIn_app (goodIn_r _ [834, 835, 118] rfl (by decide +kernel)) ggL_law_L_isAtWindow
set_option maxRecDepth 20000 in
theorem ggL_law_X9_isAtWindow : GoodIn wsL_law wsX9_isAtWindow := goodIn_r _ [844, 115, 107, 261, 262, 263, 5, 264, 189, 190, 191, 192, 193, 194, 195, 1538, 1539, 1540, 1541, 1542, 1543, 1544, 1545, 1546, 1547, 1548, 1549, 1550] rfl (by decide +kernel)
set_option maxRecDepth 20000 in
theorem gL_law_X9_isAtWindow : GoodIn wsL_law (wsV RL 280 RX9 yX9_isAtWindow wsX9_isAtWindow) := goodIn_app (goodIn_r _ [841, 842, 843, 5] rfl (by decide +kernel)) ggL_law_X9_isAtWindow
set_option maxRecDepth 20000 in
theorem ggL_law_L_thingsIn : GoodIn wsL_law wsL_thingsIn := goodIn_ca (goodIn_r _ [847, 236, 848, 849, 850, 2, 851, 16, 241, 242, 243, 244, 245, 246, 422, 423, 424, 425, 251, 34, 252, 253, 57, 1532, 1533, 1534, 1535, 1536, 1537, 1551, 1552, 1553, 1554, 1555, 1562, 1563, 1564, 1565, 1566, 1567] rfl (by decide +kernel)) (goodIn_sub (fun _ h => List.mem_append_right _ h) (by decide +kernel))
set_option maxRecDepth 20000 in
theorem gL_law_L_thingsIn : GoodIn wsL_law (va_wsS RL 281 yL_thingsIn wsL_thingsIn) := goodIn_app (goodIn_r _ [845, 846, 118] rfl (by decide +kernel)) ggL_law_L_thingsIn
set_option maxRecDepth 20000 in
theorem ggL_law_X9_thingsIn : GoodIn wsL_law wsX9_thingsIn := goodIn_r _ [855, 115, 261, 262, 263, 5, 264, 107, 189, 190, 191, 440, 441, 442, 212, 213, 214, 215, 192, 193, 194, 195, 1538, 1539, 1540, 1541, 1542, 1543, 1544, 1545, 1546, 1547, 1548, 1549, 1550] rfl (by decide +kernel)
set_option maxRecDepth 20000 in
theorem gL_law_X9_thingsIn : GoodIn wsL_law (wsV RL 283 RX9 yX9_thingsIn wsX9_thingsIn) := goodIn_app (goodIn_r _ [852, 853, 854, 5] rfl (by decide +kernel)) ggL_law_X9_thingsIn
set_option maxRecDepth 20000 in
theorem ggL_law_L_weightOf : GoodIn wsL_law wsL_weightOf := goodIn_ca (goodIn_r _ [858, 236, 859, 860, 861, 2, 862, 16, 241, 242, 243, 244, 245, 246, 430, 15, 431, 432, 35, 43, 251, 34, 252, 253, 57, 1532, 1533, 1534, 1535, 1536, 1537, 1551, 1552, 1553, 1554, 1555, 1562, 1563, 1564, 1565, 1566, 1567, 1575, 1576, 1577, 1578] rfl (by decide +kernel)) (goodIn_sub (fun _ h => List.mem_append_right _ h) (by decide +kernel))
set_option maxRecDepth 20000 in
theorem gL_law_L_weightOf : GoodIn wsL_law (va_wsS RL 284 yL_weightOf wsL_weightOf) := goodIn_app (goodIn_r _ [856, 857, 118] rfl (by decide +kernel)) ggL_law_L_weightOf
set_option maxRecDepth 20000 in
theorem ggL_law_X9_weightOf : GoodIn wsL_law wsX9_weightOf := goodIn_r _ [866, 115, 261, 262, 263, 5, 264, 107, 189, 190, 191, 446, 447, 448, 449, 212, 213, 214, 215, 192, 193, 194, 195, 1538, 1539, 1540, 1541, 1542, 1543, 1544, 1545, 1546, 1547, 1548, 1549, 1550] rfl (by decide +kernel)
set_option maxRecDepth 20000 in
theorem gL_law_X9_weightOf : GoodIn wsL_law (wsV RL 286 RX9 yX9_weightOf wsX9_weightOf) := goodIn_app (goodIn_r _ [863, 864, 865, 5] rfl (by decide +kernel)) ggL_law_X9_weightOf
set_option maxRecDepth 20000 in
theorem ggL_law_L_fetchesOf : GoodIn wsL_law wsL_fetchesOf := goodIn_ca (goodIn_r _ [869, 236, 870, 871, 872, 2, 873, 16, 241, 242, 243, 244, 245, 246, 1532, 1533, 1534, 1535, 1536, 1537, 1551, 1552, 1553, 1554, 1555, 1562, 1563, 1564, 1565, 1566, 1567] rfl (by decide +kernel)) (goodIn_sub (fun _ h => List.mem_append_right _ h) (by decide +kernel))
set_option maxRecDepth 20000 in
theorem gL_law_L_fetchesOf : GoodIn wsL_law (va_wsS RL 287 yL_fetchesOf wsL_fetchesOf) := goodIn_app (goodIn_r _ [867, 868, 118] rfl (by decide +kernel)) ggL_law_L_fetchesOf
set_option maxRecDepth 20000 in
theorem ggL_law_X9_fetchesOf : GoodIn wsL_law wsX9_fetchesOf := goodIn_r _ [877, 808, 809, 810, 5, 811, 115, 261, 262, 263, 264, 107, 189, 190, 191, 212, 213, 214, 215, 192, 193, 194, 195, 1538, 1539, 1540, 1541, 1542, 1543, 1544, 1545, 1546, 1547, 1548, 1549, 1550] rfl (by decide +kernel)
set_option maxRecDepth 20000 in
theorem gL_law_X9_fetchesOf : GoodIn wsL_law (wsV RL 289 RX9 yX9_fetchesOf wsX9_fetchesOf) := goodIn_app (goodIn_r _ [874, 875, 876, 5] rfl (by decide +kernel)) ggL_law_X9_fetchesOf
set_option maxRecDepth 20000 in
theorem ggL_law_L_atWindow : GoodIn wsL_law wsL_atWindow := goodIn_ca (goodIn_r _ [880, 121, 881, 882, 883, 2, 884, 16, 322, 323, 324, 325, 126, 127, 1532, 1533, 1534, 1535, 1536, 1537, 1551, 1552, 1553, 1554, 1555, 1562, 1563, 1564, 1565, 1566, 1567] rfl (by decide +kernel)) (goodIn_sub (fun _ h => List.mem_append_left _ (List.mem_append_left _ (List.mem_append_right _ h))) (by decide +kernel))
set_option maxRecDepth 20000 in
theorem gL_law_L_atWindow : GoodIn wsL_law (va_wsS RL 290 yL_atWindow wsL_atWindow) := goodIn_app (goodIn_r _ [878, 879, 118] rfl (by decide +kernel)) ggL_law_L_atWindow
set_option maxRecDepth 20000 in
theorem ggL_law_X9_atWindow : GoodIn wsL_law wsX9_atWindow := goodIn_r _ [888, 115, 107, 196, 197, 198, 5, 199, 192, 193, 194, 195, 1538, 1539, 1540, 1541, 1542, 1543, 1544, 1545, 1546, 1547, 1548, 1549, 1550] rfl (by decide +kernel)
set_option maxRecDepth 20000 in
theorem gL_law_X9_atWindow : GoodIn wsL_law (wsV RL 292 RX9 yX9_atWindow wsX9_atWindow) := goodIn_app (goodIn_r _ [885, 886, 887, 5] rfl (by decide +kernel)) ggL_law_X9_atWindow
set_option maxRecDepth 20000 in
theorem ggL_law_L_isFree : GoodIn wsL_law wsL_isFree := goodIn_ca (goodIn_r _ [891, 236, 892, 893, 894, 2, 895, 16, 352, 353, 354, 355, 245, 246, 356, 357, 358, 359, 896, 34, 897, 898, 52, 53, 55, 54, 1532, 1533, 1534, 1535, 1536, 1537, 1551, 1552, 1553, 1554, 1555, 1562, 1563, 1564, 1565, 1566, 1567] rfl (by decide +kernel)) (goodIn_sub (fun _ h => List.mem_append_right _ h) (by decide +kernel))
set_option maxRecDepth 20000 in
theorem gL_law_L_isFree : GoodIn wsL_law (va_wsS RL 293 yL_isFree wsL_isFree) := goodIn_app (goodIn_r _ [889, 890, 118] rfl (by decide +kernel)) ggL_law_L_isFree
set_option maxRecDepth 20000 in
theorem ggL_law_X9_isFree : GoodIn wsL_law wsX9_isFree := goodIn_r _ [902, 115, 364, 365, 5, 366, 189, 190, 191, 208, 209, 210, 211, 107, 212, 213, 214, 215, 192, 193, 194, 195, 1538, 1539, 1540, 1541, 1542, 1543, 1544, 1545, 1546, 1547, 1548, 1549, 1550] rfl (by decide +kernel)
set_option maxRecDepth 20000 in
theorem gL_law_X9_isFree : GoodIn wsL_law (wsV RL 295 RX9 yX9_isFree wsX9_isFree) := goodIn_app (goodIn_r _ [899, 900, 901, 5] rfl (by decide +kernel)) ggL_law_X9_isFree
set_option maxRecDepth 20000 in
theorem ggL_law_L_shelfAt : GoodIn wsL_law wsL_shelfAt := goodIn_ca (goodIn_ca (goodIn_r _ [905, 236, 121, 906, 907, 908, 2, 909, 126, 127, 16, 352, 353, 354, 355, 245, 246, 356, 357, 358, 359, 896, 34, 897, 898, 52, 53, 55, 54, 1532, 1533, 1534, 1535, 1536, 1537, 1551, 1552, 1553, 1554, 1555, 1562, 1563, 1564, 1565, 1566, 1567] rfl (by decide +kernel)) (goodIn_sub (fun _ h => List.mem_append_left _ (List.mem_append_left _ (List.mem_append_right _ h))) (by decide +kernel))) (goodIn_sub (fun _ h => List.mem_append_right _ h) (by decide +kernel))
set_option maxRecDepth 20000 in
theorem gL_law_L_shelfAt : GoodIn wsL_law (va_wsS RL 296 yL_shelfAt wsL_shelfAt) := goodIn_app (goodIn_r _ [903, 904, 118] rfl (by decide +kernel)) ggL_law_L_shelfAt
set_option maxRecDepth 20000 in
theorem ggL_law_X9_shelfAt : GoodIn wsL_law wsX9_shelfAt := goodIn_r _ [913, 115, 364, 365, 5, 366, 189, 190, 191, 192, 193, 194, 195, 208, 209, 210, 211, 107, 212, 213, 214, 215, 1538, 1539, 1540, 1541, 1542, 1543, 1544, 1545, 1546, 1547, 1548, 1549, 1550] rfl (by decide +kernel)
set_option maxRecDepth 20000 in
theorem gL_law_X9_shelfAt : GoodIn wsL_law (wsV RL 298 RX9 yX9_shelfAt wsX9_shelfAt) := goodIn_app (goodIn_r _ [910, 911, 912, 5] rfl (by decide +kernel)) ggL_law_X9_shelfAt
set_option maxRecDepth 20000 in
theorem ggL_law_X8_freeBySlots : GoodIn wsL_law wsX8_freeBySlots := goodIn_r _ [917, 16, 918, 34, 919, 920, 141, 142, 143, 144, 52, 53, 55, 54, 145, 146, 147, 151, 152, 153, 1532, 1533, 1534, 1535, 1536, 1537, 1551, 1552, 1553, 1554, 1555, 1562, 1563, 1564, 1565, 1566, 1567] rfl (by decide +kernel)
set_option maxRecDepth 20000 in
theorem gL_law_X8_freeBySlots : GoodIn wsL_law (wsV RL 299 RX8 yX8_freeBySlots wsX8_freeBySlots) := goodIn_app (goodIn_r _ [914, 915, 916, 2] rfl (by decide +kernel)) ggL_law_X8_freeBySlots
set_option maxRecDepth 20000 in
theorem ggL_law_X9_freeBySlots : GoodIn wsL_law wsX9_freeBySlots := goodIn_r _ [924, 115, 925, 926, 927, 5, 928, 208, 209, 210, 211, 107, 212, 213, 214, 215, 189, 190, 191, 1538, 1539, 1540, 1541, 1542, 1543, 1544, 1545, 1546, 1547, 1548, 1549, 1550] rfl (by decide +kernel)
set_option maxRecDepth 20000 in
theorem gL_law_X9_freeBySlots : GoodIn wsL_law (wsV RL 302 RX9 yX9_freeBySlots wsX9_freeBySlots) := goodIn_app (goodIn_r _ [921, 922, 923, 5] rfl (by decide +kernel)) ggL_law_X9_freeBySlots
set_option maxRecDepth 20000 in
theorem ggL_law_X8_freeByHeights : GoodIn wsL_law wsX8_freeByHeights := goodIn_r _ [932, 16, 933, 34, 934, 935, 52, 53, 54, 1532, 1533, 1534, 1535, 1536, 1537, 1551, 1552, 1553, 1554, 1555, 1562, 1563, 1564, 1565, 1566, 1567] rfl (by decide +kernel)
set_option maxRecDepth 20000 in
theorem gL_law_X8_freeByHeights : GoodIn wsL_law (wsV RL 303 RX8 yX8_freeByHeights wsX8_freeByHeights) := goodIn_app (goodIn_r _ [929, 930, 931, 2] rfl (by decide +kernel)) ggL_law_X8_freeByHeights
set_option maxRecDepth 20000 in
theorem ggL_law_X9_freeByHeights : GoodIn wsL_law wsX9_freeByHeights := goodIn_r _ [939, 115, 925, 926, 927, 5, 928, 208, 209, 210, 211, 107, 212, 213, 214, 215, 189, 190, 191, 1538, 1539, 1540, 1541, 1542, 1543, 1544, 1545, 1546, 1547, 1548, 1549, 1550] rfl (by decide +kernel)
set_option maxRecDepth 20000 in
theorem gL_law_X9_freeByHeights : GoodIn wsL_law (wsV RL 306 RX9 yX9_freeByHeights wsX9_freeByHeights) := goodIn_app (goodIn_r _ [936, 937, 938, 5] rfl (by decide +kernel)) ggL_law_X9_freeByHeights
set_option maxRecDepth 20000 in
theorem ggL_law_L_firstPlace : GoodIn wsL_law wsL_firstPlace := goodIn_ca (goodIn_ca (goodIn_r _ [942, 120, 121, 943, 944, 945, 2, 946, 126, 127, 16, 128, 129, 130, 131, 132, 133, 138, 34, 139, 140, 141, 142, 143, 144, 52, 53, 55, 54, 145, 146, 147, 148, 149, 150, 151, 152, 153, 1532, 1533, 1534, 1535, 1536, 1537, 1551, 1552, 1553, 1554, 1555, 1562, 1563, 1564, 1565, 1566, 1567] rfl (by decide +kernel)) (goodIn_sub (fun _ h => List.mem_append_left _ (List.mem_append_left _ (List.mem_append_right _ h))) (by decide +kernel))) (goodIn_sub (fun _ h => List.mem_append_left _ (List.mem_append_right _ h)) (by decide +kernel))
