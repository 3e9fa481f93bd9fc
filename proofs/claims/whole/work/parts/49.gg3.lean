set_option maxRecDepth 20000 in
theorem gL_law_L_firstPlace : GoodIn wsL_law (va_wsS RL 307 yL_firstPlace wsL_firstPlace) := goodIn_app (goodIn_r _ [940, 941, 118] rfl (by decide +kernel)) ggL_law_L_firstPlace
set_option maxRecDepth 20000 in
theorem ggL_law_X9_firstPlace : GoodIn wsL_law wsX9_firstPlace := goodIn_r _ [950, 115, 189, 190, 5, 191, 192, 193, 194, 195, 200, 201, 202, 203, 204, 205, 206, 207, 208, 209, 210, 211, 107, 212, 213, 214, 215, 1538, 1539, 1540, 1541, 1542, 1543, 1544, 1545, 1546, 1547, 1548, 1549, 1550] rfl (by decide +kernel)
set_option maxRecDepth 20000 in
theorem gL_law_X9_firstPlace : GoodIn wsL_law (wsV RL 309 RX9 yX9_firstPlace wsX9_firstPlace) := goodIn_app (goodIn_r _ [947, 948, 949, 5] rfl (by decide +kernel)) ggL_law_X9_firstPlace
set_option maxRecDepth 20000 in
theorem ggL_law_L_longestGap : GoodIn wsL_law wsL_longestGap := goodIn_ca (goodIn_r _ [953, 236, 954, 955, 956, 2, 957, 16, 356, 357, 358, 359, 245, 246, 958, 34, 959, 960, 961, 962, 285, 963, 141, 142, 143, 144, 52, 53, 55, 54, 145, 146, 147, 151, 152, 153, 1532, 1533, 1534, 1535, 1536, 1537, 1551, 1552, 1553, 1554, 1555, 1562, 1563, 1564, 1565, 1566, 1567] rfl (by decide +kernel)) (goodIn_sub (fun _ h => List.mem_append_right _ h) (by decide +kernel))
set_option maxRecDepth 20000 in
theorem gL_law_L_longestGap : GoodIn wsL_law (va_wsS RL 310 yL_longestGap wsL_longestGap) := goodIn_app (goodIn_r _ [951, 952, 118] rfl (by decide +kernel)) ggL_law_L_longestGap
set_option maxRecDepth 20000 in
theorem ggL_law_X9_longestGap : GoodIn wsL_law wsX9_longestGap := goodIn_r _ [967, 115, 189, 190, 5, 191, 968, 969, 970, 971, 208, 209, 210, 211, 107, 212, 213, 214, 215, 192, 193, 194, 195, 1538, 1539, 1540, 1541, 1542, 1543, 1544, 1545, 1546, 1547, 1548, 1549, 1550] rfl (by decide +kernel)
set_option maxRecDepth 20000 in
theorem gL_law_X9_longestGap : GoodIn wsL_law (wsV RL 312 RX9 yX9_longestGap wsX9_longestGap) := goodIn_app (goodIn_r _ [964, 965, 966, 5] rfl (by decide +kernel)) ggL_law_X9_longestGap
set_option maxRecDepth 20000 in
theorem ggL_law_X8_lift : GoodIn wsL_law wsX8_lift := goodIn_r _ [975, 16, 1532, 1533, 1534, 1535, 1536, 1537, 1551, 1552, 1553, 1554, 1555, 1568, 1569, 1570, 1571, 1572, 1573, 1574] rfl (by decide +kernel)
set_option maxRecDepth 20000 in
theorem gL_law_X8_lift : GoodIn wsL_law (wsV RL 313 RX8 yX8_lift wsX8_lift) := goodIn_app (goodIn_r _ [972, 973, 974, 2] rfl (by decide +kernel)) ggL_law_X8_lift
set_option maxRecDepth 20000 in
theorem ggL_law_X9_lift : GoodIn wsL_law wsX9_lift := goodIn_r _ [979, 115, 107, 1538, 1539, 1540, 1541, 1542, 1543, 1544, 1545, 1546, 1547, 1548, 1549, 1550] rfl (by decide +kernel)
set_option maxRecDepth 20000 in
theorem gL_law_X9_lift : GoodIn wsL_law (wsV RL 316 RX9 yX9_lift wsX9_lift) := goodIn_app (goodIn_r _ [976, 977, 978, 5] rfl (by decide +kernel)) ggL_law_X9_lift
set_option maxRecDepth 20000 in
theorem ggL_law_X8_isKeptPlace : GoodIn wsL_law wsX8_isKeptPlace := goodIn_r _ [983, 16, 1532, 1533, 1534, 1535, 1536, 1537, 1551, 1552, 1553, 1554, 1555, 1568, 1569, 1570, 1571, 1572, 1573, 1574] rfl (by decide +kernel)
set_option maxRecDepth 20000 in
theorem gL_law_X8_isKeptPlace : GoodIn wsL_law (wsV RL 317 RX8 yX8_isKeptPlace wsX8_isKeptPlace) := goodIn_app (goodIn_r _ [980, 981, 982, 2] rfl (by decide +kernel)) ggL_law_X8_isKeptPlace
set_option maxRecDepth 20000 in
theorem ggL_law_X9_isKeptPlace : GoodIn wsL_law wsX9_isKeptPlace := goodIn_r _ [987, 115, 107, 1538, 1539, 1540, 1541, 1542, 1543, 1544, 1545, 1546, 1547, 1548, 1549, 1550] rfl (by decide +kernel)
set_option maxRecDepth 20000 in
theorem gL_law_X9_isKeptPlace : GoodIn wsL_law (wsV RL 320 RX9 yX9_isKeptPlace wsX9_isKeptPlace) := goodIn_app (goodIn_r _ [984, 985, 986, 5] rfl (by decide +kernel)) ggL_law_X9_isKeptPlace
set_option maxRecDepth 20000 in
theorem ggL_law_L_wouldPack : GoodIn wsL_law wsL_wouldPack := goodIn_ca (goodIn_r _ [990, 121, 991, 992, 993, 2, 994, 16, 27, 374, 375, 376, 377, 126, 127, 134, 135, 136, 137, 378, 34, 379, 380, 52, 54, 381, 382, 383, 384, 56, 148, 149, 150, 151, 152, 153, 145, 146, 147, 385, 386, 387, 55, 1532, 1533, 1534, 1535, 1536, 1537, 1551, 1552, 1553, 1554, 1555, 1562, 1563, 1564, 1565, 1566, 1567] rfl (by decide +kernel)) (goodIn_sub (fun _ h => List.mem_append_left _ (List.mem_append_left _ (List.mem_append_right _ h))) (by decide +kernel))
set_option maxRecDepth 20000 in
theorem gL_law_L_wouldPack : GoodIn wsL_law (va_wsS RL 321 yL_wouldPack wsL_wouldPack) := goodIn_app (goodIn_r _ [988, 989, 118] rfl (by decide +kernel)) ggL_law_L_wouldPack
set_option maxRecDepth 20000 in
theorem ggL_law_X9_wouldPack : GoodIn wsL_law wsX9_wouldPack := goodIn_r _ [998, 115, 196, 197, 198, 5, 199, 107, 395, 396, 397, 398, 399, 400, 401, 402, 108, 403, 404, 405, 406, 221, 222, 223, 224, 407, 408, 409, 410, 212, 213, 214, 215, 200, 201, 202, 203, 204, 205, 206, 207, 208, 209, 210, 211, 189, 190, 191, 225, 226, 227, 228, 411, 412, 413, 414, 192, 193, 194, 195, 1538, 1539, 1540, 1541, 1542, 1543, 1544, 1545, 1546, 1547, 1548, 1549, 1550] rfl (by decide +kernel)
set_option maxRecDepth 20000 in
theorem gL_law_X9_wouldPack : GoodIn wsL_law (wsV RL 323 RX9 yX9_wouldPack wsX9_wouldPack) := goodIn_app (goodIn_r _ [995, 996, 997, 5] rfl (by decide +kernel)) ggL_law_X9_wouldPack
set_option maxRecDepth 20000 in
theorem ggL_law_L_sideWeight : GoodIn wsL_law wsL_sideWeight := goodIn_ca (goodIn_r _ [1001, 236, 1002, 1003, 1004, 2, 1005, 16, 356, 357, 358, 359, 245, 246, 1006, 15, 1007, 1008, 35, 694, 430, 431, 432, 43, 251, 34, 252, 253, 57, 1532, 1533, 1534, 1535, 1536, 1537, 1551, 1552, 1553, 1554, 1555, 1562, 1563, 1564, 1565, 1566, 1567, 1575, 1576, 1577, 1578] rfl (by decide +kernel)) (goodIn_sub (fun _ h => List.mem_append_right _ h) (by decide +kernel))
set_option maxRecDepth 20000 in
theorem gL_law_L_sideWeight : GoodIn wsL_law (va_wsS RL 324 yL_sideWeight wsL_sideWeight) := goodIn_app (goodIn_r _ [999, 1000, 118] rfl (by decide +kernel)) ggL_law_L_sideWeight
set_option maxRecDepth 20000 in
theorem ggL_law_X9_sideWeight : GoodIn wsL_law wsX9_sideWeight := goodIn_r _ [1012, 115, 189, 190, 5, 191, 1013, 1014, 1015, 1016, 107, 212, 213, 214, 215, 446, 447, 448, 449, 192, 193, 194, 195, 1538, 1539, 1540, 1541, 1542, 1543, 1544, 1545, 1546, 1547, 1548, 1549, 1550] rfl (by decide +kernel)
set_option maxRecDepth 20000 in
theorem gL_law_X9_sideWeight : GoodIn wsL_law (wsV RL 326 RX9 yX9_sideWeight wsX9_sideWeight) := goodIn_app (goodIn_r _ [1009, 1010, 1011, 5] rfl (by decide +kernel)) ggL_law_X9_sideWeight
set_option maxRecDepth 20000 in
theorem ggL_law_X8_trips : GoodIn wsL_law wsX8_trips := goodIn_r _ [1020, 16, 1532, 1533, 1534, 1535, 1536, 1537, 1551, 1552, 1553, 1554, 1555, 1568, 1569, 1570, 1571, 1572, 1573, 1574] rfl (by decide +kernel)
set_option maxRecDepth 20000 in
theorem gL_law_X8_trips : GoodIn wsL_law (wsV RL 327 RX8 yX8_trips wsX8_trips) := goodIn_app (goodIn_r _ [1017, 1018, 1019, 2] rfl (by decide +kernel)) ggL_law_X8_trips
set_option maxRecDepth 20000 in
theorem ggL_law_X9_trips : GoodIn wsL_law wsX9_trips := goodIn_r _ [1024, 115, 107, 1538, 1539, 1540, 1541, 1542, 1543, 1544, 1545, 1546, 1547, 1548, 1549, 1550] rfl (by decide +kernel)
set_option maxRecDepth 20000 in
theorem gL_law_X9_trips : GoodIn wsL_law (wsV RL 330 RX9 yX9_trips wsX9_trips) := goodIn_app (goodIn_r _ [1021, 1022, 1023, 5] rfl (by decide +kernel)) ggL_law_X9_trips
set_option maxRecDepth 20000 in
theorem ggL_law_L_tripTicks : GoodIn wsL_law wsL_tripTicks := goodIn_ca (goodIn_r _ [1027, 236, 1028, 1029, 1030, 2, 1031, 16, 1032, 1033, 1034, 1035, 245, 246, 1532, 1533, 1534, 1535, 1536, 1537, 1551, 1552, 1553, 1554, 1555, 1568, 1569, 1570, 1571, 1572, 1573, 1574] rfl (by decide +kernel)) (goodIn_sub (fun _ h => List.mem_append_right _ h) (by decide +kernel))
set_option maxRecDepth 20000 in
theorem gL_law_L_tripTicks : GoodIn wsL_law (va_wsS RL 331 yL_tripTicks wsL_tripTicks) := goodIn_app (goodIn_r _ [1025, 1026, 118] rfl (by decide +kernel)) ggL_law_L_tripTicks
set_option maxRecDepth 20000 in
theorem ggL_law_X9_tripTicks : GoodIn wsL_law wsX9_tripTicks := goodIn_r _ [1039, 115, 107, 189, 190, 5, 191, 192, 193, 194, 195, 1538, 1539, 1540, 1541, 1542, 1543, 1544, 1545, 1546, 1547, 1548, 1549, 1550] rfl (by decide +kernel)
set_option maxRecDepth 20000 in
theorem gL_law_X9_tripTicks : GoodIn wsL_law (wsV RL 333 RX9 yX9_tripTicks wsX9_tripTicks) := goodIn_app (goodIn_r _ [1036, 1037, 1038, 5] rfl (by decide +kernel)) ggL_law_X9_tripTicks
set_option maxRecDepth 20000 in
theorem ggL_law_L_wasFetch : GoodIn wsL_law wsL_wasFetch := goodIn_ca (goodIn_r _ [1042, 236, 1043, 1044, 1045, 2, 1046, 16, 1032, 1033, 1034, 1035, 245, 246, 1532, 1533, 1534, 1535, 1536, 1537, 1551, 1552, 1553, 1554, 1555, 1568, 1569, 1570, 1571, 1572, 1573, 1574] rfl (by decide +kernel)) (goodIn_sub (fun _ h => List.mem_append_right _ h) (by decide +kernel))
set_option maxRecDepth 20000 in
theorem gL_law_L_wasFetch : GoodIn wsL_law (va_wsS RL 334 yL_wasFetch wsL_wasFetch) := goodIn_app (goodIn_r _ [1040, 1041, 118] rfl (by decide +kernel)) ggL_law_L_wasFetch
set_option maxRecDepth 20000 in
theorem ggL_law_X9_wasFetch : GoodIn wsL_law wsX9_wasFetch := goodIn_r _ [1050, 115, 107, 189, 190, 5, 191, 192, 193, 194, 195, 1538, 1539, 1540, 1541, 1542, 1543, 1544, 1545, 1546, 1547, 1548, 1549, 1550] rfl (by decide +kernel)
set_option maxRecDepth 20000 in
theorem gL_law_X9_wasFetch : GoodIn wsL_law (wsV RL 336 RX9 yX9_wasFetch wsX9_wasFetch) := goodIn_app (goodIn_r _ [1047, 1048, 1049, 5] rfl (by decide +kernel)) ggL_law_X9_wasFetch
set_option maxRecDepth 20000 in
theorem ggL_law_L_weightOfKind : GoodIn wsL_law wsL_weightOfKind := goodIn_ca (goodIn_r _ [1053, 236, 1054, 1055, 1056, 2, 1057, 16, 422, 423, 424, 425, 245, 246, 1532, 1533, 1534, 1535, 1536, 1537, 1551, 1552, 1553, 1554, 1555, 1575, 1576, 1577, 1578] rfl (by decide +kernel)) (goodIn_sub (fun _ h => List.mem_append_right _ h) (by decide +kernel))
set_option maxRecDepth 20000 in
theorem gL_law_L_weightOfKind : GoodIn wsL_law (va_wsS RL 337 yL_weightOfKind wsL_weightOfKind) := goodIn_app (goodIn_r _ [1051, 1052, 118] rfl (by decide +kernel)) ggL_law_L_weightOfKind
set_option maxRecDepth 20000 in
theorem ggL_law_X9_weightOfKind : GoodIn wsL_law wsX9_weightOfKind := goodIn_r _ [1061, 115, 107, 440, 441, 5, 442, 189, 190, 191, 192, 193, 194, 195, 1538, 1539, 1540, 1541, 1542, 1543, 1544, 1545, 1546, 1547, 1548, 1549, 1550] rfl (by decide +kernel)
set_option maxRecDepth 20000 in
theorem gL_law_X9_weightOfKind : GoodIn wsL_law (wsV RL 339 RX9 yX9_weightOfKind wsX9_weightOfKind) := goodIn_app (goodIn_r _ [1058, 1059, 1060, 5] rfl (by decide +kernel)) ggL_law_X9_weightOfKind
set_option maxRecDepth 20000 in
theorem ggL_law_L_stockByShelves : GoodIn wsL_law wsL_stockByShelves := goodIn_ca (goodIn_r _ [1064, 236, 1065, 1066, 1067, 2, 1068, 16, 422, 423, 424, 425, 245, 246, 1069, 34, 1070, 1071, 52, 250, 251, 252, 253, 57, 1532, 1533, 1534, 1535, 1536, 1537, 1551, 1552, 1553, 1554, 1555, 1562, 1563, 1564, 1565, 1566, 1567] rfl (by decide +kernel)) (goodIn_sub (fun _ h => List.mem_append_right _ h) (by decide +kernel))
set_option maxRecDepth 20000 in
theorem gL_law_L_stockByShelves : GoodIn wsL_law (va_wsS RL 340 yL_stockByShelves wsL_stockByShelves) := goodIn_app (goodIn_r _ [1062, 1063, 118] rfl (by decide +kernel)) ggL_law_L_stockByShelves
set_option maxRecDepth 20000 in
theorem ggL_law_X9_stockByShelves : GoodIn wsL_law wsX9_stockByShelves := goodIn_r _ [1075, 115, 440, 441, 5, 442, 189, 190, 191, 618, 619, 620, 621, 107, 212, 213, 214, 215, 192, 193, 194, 195, 1538, 1539, 1540, 1541, 1542, 1543, 1544, 1545, 1546, 1547, 1548, 1549, 1550] rfl (by decide +kernel)
set_option maxRecDepth 20000 in
theorem gL_law_X9_stockByShelves : GoodIn wsL_law (wsV RL 342 RX9 yX9_stockByShelves wsX9_stockByShelves) := goodIn_app (goodIn_r _ [1072, 1073, 1074, 5] rfl (by decide +kernel)) ggL_law_X9_stockByShelves
set_option maxRecDepth 20000 in
theorem ggL_law_L_stockByAccount : GoodIn wsL_law wsL_stockByAccount := goodIn_ca (goodIn_r _ [1078, 236, 1079, 1080, 1081, 2, 1082, 16, 422, 423, 424, 425, 245, 246, 1532, 1533, 1534, 1535, 1536, 1537, 1551, 1552, 1553, 1554, 1555, 1575, 1576, 1577, 1578] rfl (by decide +kernel)) (goodIn_sub (fun _ h => List.mem_append_right _ h) (by decide +kernel))
set_option maxRecDepth 20000 in
theorem gL_law_L_stockByAccount : GoodIn wsL_law (va_wsS RL 343 yL_stockByAccount wsL_stockByAccount) := goodIn_app (goodIn_r _ [1076, 1077, 118] rfl (by decide +kernel)) ggL_law_L_stockByAccount
set_option maxRecDepth 20000 in
theorem ggL_law_X9_stockByAccount : GoodIn wsL_law wsX9_stockByAccount := goodIn_r _ [1086, 115, 107, 440, 441, 5, 442, 189, 190, 191, 192, 193, 194, 195, 1538, 1539, 1540, 1541, 1542, 1543, 1544, 1545, 1546, 1547, 1548, 1549, 1550] rfl (by decide +kernel)
set_option maxRecDepth 20000 in
theorem gL_law_X9_stockByAccount : GoodIn wsL_law (wsV RL 345 RX9 yX9_stockByAccount wsX9_stockByAccount) := goodIn_app (goodIn_r _ [1083, 1084, 1085, 5] rfl (by decide +kernel)) ggL_law_X9_stockByAccount
set_option maxRecDepth 20000 in
theorem ggL_law_L_shelvesWith : GoodIn wsL_law wsL_shelvesWith := goodIn_ca (goodIn_r _ [1089, 236, 1090, 1091, 1092, 2, 1093, 16, 422, 423, 424, 425, 245, 246, 1094, 34, 1095, 1096, 52, 250, 251, 252, 253, 57, 1532, 1533, 1534, 1535, 1536, 1537, 1551, 1552, 1553, 1554, 1555, 1562, 1563, 1564, 1565, 1566, 1567] rfl (by decide +kernel)) (goodIn_sub (fun _ h => List.mem_append_right _ h) (by decide +kernel))
set_option maxRecDepth 20000 in
theorem gL_law_L_shelvesWith : GoodIn wsL_law (va_wsS RL 346 yL_shelvesWith wsL_shelvesWith) := goodIn_app (goodIn_r _ [1087, 1088, 118] rfl (by decide +kernel)) ggL_law_L_shelvesWith
