theorem dL_cell_0 : decode cL_cell 0 = .ok (.iload_n 1, 1) := by decide +kernel
theorem dL_cell_1 : decode cL_cell 1 = .ok (.aload_n 0, 1) := by decide +kernel
theorem dL_cell_2 : decode cL_cell 2 = .ok (.arraylength, 1) := by decide +kernel
theorem dL_cell_3 : decode cL_cell 3 = .ok (.if_icmp .ge 9, 3) := by decide +kernel
theorem dL_cell_6 : decode cL_cell 6 = .ok (.aload_n 0, 1) := by decide +kernel
theorem dL_cell_7 : decode cL_cell 7 = .ok (.iload_n 1, 1) := by decide +kernel
theorem dL_cell_8 : decode cL_cell 8 = .ok (.iaload, 1) := by decide +kernel
theorem dL_cell_9 : decode cL_cell 9 = .ok (.goto 15, 3) := by decide +kernel
theorem dL_cell_12 : decode cL_cell 12 = .ok (.sipush 7919, 3) := by decide +kernel
theorem dL_cell_15 : decode cL_cell 15 = .ok (.iload_n 1, 1) := by decide +kernel
theorem dL_cell_16 : decode cL_cell 16 = .ok (.iconst 3, 1) := by decide +kernel
theorem dL_cell_17 : decode cL_cell 17 = .ok (.iadd, 1) := by decide +kernel
theorem dL_cell_18 : decode cL_cell 18 = .ok (.imul, 1) := by decide +kernel
theorem dL_cell_19 : decode cL_cell 19 = .ok (.iload_n 1, 1) := by decide +kernel
theorem dL_cell_20 : decode cL_cell 20 = .ok (.bipush 11, 2) := by decide +kernel
theorem dL_cell_22 : decode cL_cell 22 = .ok (.iadd, 1) := by decide +kernel
theorem dL_cell_23 : decode cL_cell 23 = .ok (.imul, 1) := by decide +kernel
theorem dL_cell_24 : decode cL_cell 24 = .ok (.ireturn, 1) := by decide +kernel
theorem dL_low_0 : decode cL_low 0 = .ok (.iload_n 0, 1) := by decide +kernel
theorem dL_low_1 : decode cL_low 1 = .ok (.ldc 7, 2) := by decide +kernel
theorem dL_low_3 : decode cL_low 3 = .ok (.iand, 1) := by decide +kernel
theorem dL_low_4 : decode cL_low 4 = .ok (.iload_n 1, 1) := by decide +kernel
theorem dL_low_5 : decode cL_low 5 = .ok (.irem, 1) := by decide +kernel
theorem dL_low_6 : decode cL_low 6 = .ok (.ireturn, 1) := by decide +kernel
set_option maxRecDepth 20000 in
theorem ggL_told_X8_shelves : GoodIn wsL_told wsX8_shelves := goodIn_r _ [7, 8, 119, 120, 121, 122, 123, 124, 125, 126, 127, 128, 129, 130, 131, 132, 133, 134, 135] rfl (by decide +kernel)
set_option maxRecDepth 20000 in
theorem gL_told_X8_shelves : GoodIn wsL_told (wsV RL 12 RX8 yX8_shelves wsX8_shelves) := goodIn_app (goodIn_r _ [3, 4, 5, 6] rfl (by decide +kernel)) ggL_told_X8_shelves
set_option maxRecDepth 20000 in
theorem ggL_told_X8_lift : GoodIn wsL_told wsX8_lift := goodIn_r _ [12, 8, 119, 120, 121, 122, 123, 124, 125, 126, 127, 128, 129, 136, 137, 138, 139, 140, 141, 142] rfl (by decide +kernel)
set_option maxRecDepth 20000 in
theorem gL_told_X8_lift : GoodIn wsL_told (wsV RL 18 RX8 yX8_lift wsX8_lift) := goodIn_app (goodIn_r _ [9, 10, 11, 6] rfl (by decide +kernel)) ggL_told_X8_lift
set_option maxRecDepth 20000 in
theorem ggL_told_X8_ticks : GoodIn wsL_told wsX8_ticks := goodIn_r _ [16, 8, 119, 120, 121, 122, 123, 124, 125, 126, 127, 128, 129, 136, 137, 138, 139, 140, 141, 142] rfl (by decide +kernel)
set_option maxRecDepth 20000 in
theorem gL_told_X8_ticks : GoodIn wsL_told (wsV RL 21 RX8 yX8_ticks wsX8_ticks) := goodIn_app (goodIn_r _ [13, 14, 15, 6] rfl (by decide +kernel)) ggL_told_X8_ticks
set_option maxRecDepth 20000 in
theorem ggL_told_X8_fetches : GoodIn wsL_told wsX8_fetches := goodIn_r _ [20, 8, 119, 120, 121, 122, 123, 124, 125, 126, 127, 128, 129, 136, 137, 138, 139, 140, 141, 142] rfl (by decide +kernel)
set_option maxRecDepth 20000 in
theorem gL_told_X8_fetches : GoodIn wsL_told (wsV RL 24 RX8 yX8_fetches wsX8_fetches) := goodIn_app (goodIn_r _ [17, 18, 19, 6] rfl (by decide +kernel)) ggL_told_X8_fetches
set_option maxRecDepth 20000 in
theorem ggL_told_X8_served : GoodIn wsL_told wsX8_served := goodIn_r _ [24, 8, 119, 120, 121, 122, 123, 124, 125, 126, 127, 128, 129] rfl (by decide +kernel)
set_option maxRecDepth 20000 in
theorem gL_told_X8_served : GoodIn wsL_told (wsV RL 27 RX8 yX8_served wsX8_served) := goodIn_app (goodIn_r _ [21, 22, 23, 6] rfl (by decide +kernel)) ggL_told_X8_served
set_option maxRecDepth 20000 in
theorem ggL_told_X8_orders : GoodIn wsL_told wsX8_orders := goodIn_r _ [28, 8, 119, 120, 121, 122, 123, 124, 125, 126, 127, 128, 129, 143, 144] rfl (by decide +kernel)
set_option maxRecDepth 20000 in
theorem gL_told_X8_orders : GoodIn wsL_told (wsV RL 30 RX8 yX8_orders wsX8_orders) := goodIn_app (goodIn_r _ [25, 26, 27, 6] rfl (by decide +kernel)) ggL_told_X8_orders
set_option maxRecDepth 20000 in
theorem ggL_told_X8_sideOf : GoodIn wsL_told wsX8_sideOf := goodIn_ca (goodIn_r _ [32, 8, 33, 34, 35, 6, 36, 37, 38, 119, 120, 121, 122, 123, 124, 125, 126, 127, 128, 129, 130, 131, 132, 133, 134, 135] rfl (by decide +kernel)) (goodIn_sub (fun _ h => List.mem_cons_of_mem _ (List.mem_append_right _ h)) (by decide +kernel))
set_option maxRecDepth 20000 in
theorem gL_told_X8_sideOf : GoodIn wsL_told (wsV RL 33 RX8 yX8_sideOf wsX8_sideOf) := goodIn_app (goodIn_r _ [29, 30, 31, 6] rfl (by decide +kernel)) ggL_told_X8_sideOf
set_option maxRecDepth 20000 in
theorem ggL_told_X8_slotOf : GoodIn wsL_told wsX8_slotOf := goodIn_ca (goodIn_r _ [42, 8, 33, 34, 35, 6, 36, 37, 38, 119, 120, 121, 122, 123, 124, 125, 126, 127, 128, 129, 130, 131, 132, 133, 134, 135] rfl (by decide +kernel)) (goodIn_sub (fun _ h => List.mem_cons_of_mem _ (List.mem_append_right _ h)) (by decide +kernel))
set_option maxRecDepth 20000 in
theorem gL_told_X8_slotOf : GoodIn wsL_told (wsV RL 37 RX8 yX8_slotOf wsX8_slotOf) := goodIn_app (goodIn_r _ [39, 40, 41, 6] rfl (by decide +kernel)) ggL_told_X8_slotOf
set_option maxRecDepth 20000 in
theorem ggL_told_X8_fetchesOf : GoodIn wsL_told wsX8_fetchesOf := goodIn_ca (goodIn_r _ [46, 8, 33, 34, 35, 6, 36, 37, 38, 119, 120, 121, 122, 123, 124, 125, 126, 127, 128, 129, 130, 131, 132, 133, 134, 135] rfl (by decide +kernel)) (goodIn_sub (fun _ h => List.mem_cons_of_mem _ (List.mem_append_right _ h)) (by decide +kernel))
set_option maxRecDepth 20000 in
theorem gL_told_X8_fetchesOf : GoodIn wsL_told (wsV RL 40 RX8 yX8_fetchesOf wsX8_fetchesOf) := goodIn_app (goodIn_r _ [43, 44, 45, 6] rfl (by decide +kernel)) ggL_told_X8_fetchesOf
set_option maxRecDepth 20000 in
theorem ggL_told_X8_isAtWindow : GoodIn wsL_told wsX8_isAtWindow := goodIn_ca (goodIn_r _ [50, 8, 33, 34, 35, 6, 36, 37, 38, 119, 120, 121, 122, 123, 124, 125, 126, 127, 128, 129, 130, 131, 132, 133, 134, 135] rfl (by decide +kernel)) (goodIn_sub (fun _ h => List.mem_cons_of_mem _ (List.mem_append_right _ h)) (by decide +kernel))
set_option maxRecDepth 20000 in
theorem gL_told_X8_isAtWindow : GoodIn wsL_told (wsV RL 43 RX8 yX8_isAtWindow wsX8_isAtWindow) := goodIn_app (goodIn_r _ [47, 48, 49, 6] rfl (by decide +kernel)) ggL_told_X8_isAtWindow
set_option maxRecDepth 20000 in
theorem ggL_told_X8_weightOf : GoodIn wsL_told wsX8_weightOf := goodIn_ca (goodIn_r _ [54, 8, 33, 34, 35, 6, 36, 37, 38, 55, 56, 57, 58, 59, 60, 61, 62, 63, 64, 65, 119, 120, 121, 122, 123, 124, 125, 126, 127, 128, 129, 130, 131, 132, 133, 134, 135, 145, 146, 147, 148] rfl (by decide +kernel)) (goodIn_sub (fun _ h => List.mem_cons_of_mem _ (List.mem_append_right _ h)) (by decide +kernel))
set_option maxRecDepth 20000 in
theorem gL_told_X8_weightOf : GoodIn wsL_told (wsV RL 47 RX8 yX8_weightOf wsX8_weightOf) := goodIn_app (goodIn_r _ [51, 52, 53, 6] rfl (by decide +kernel)) ggL_told_X8_weightOf
set_option maxRecDepth 20000 in
theorem ggL_told_X8_stockByAccount : GoodIn wsL_told wsX8_stockByAccount := goodIn_ca (goodIn_r _ [69, 8, 70, 71, 72, 6, 73, 37, 38, 119, 120, 121, 122, 123, 124, 125, 126, 127, 128, 129, 145, 146, 147, 148] rfl (by decide +kernel)) (goodIn_sub (fun _ h => List.mem_cons_of_mem _ (List.mem_append_right _ h)) (by decide +kernel))
set_option maxRecDepth 20000 in
theorem gL_told_X8_stockByAccount : GoodIn wsL_told (wsV RL 50 RX8 yX8_stockByAccount wsX8_stockByAccount) := goodIn_app (goodIn_r _ [66, 67, 68, 6] rfl (by decide +kernel)) ggL_told_X8_stockByAccount
set_option maxRecDepth 20000 in
theorem ggL_told_X8_weightOfKind : GoodIn wsL_told wsX8_weightOfKind := goodIn_ca (goodIn_r _ [77, 8, 70, 71, 72, 6, 73, 37, 38, 119, 120, 121, 122, 123, 124, 125, 126, 127, 128, 129, 145, 146, 147, 148] rfl (by decide +kernel)) (goodIn_sub (fun _ h => List.mem_cons_of_mem _ (List.mem_append_right _ h)) (by decide +kernel))
set_option maxRecDepth 20000 in
theorem gL_told_X8_weightOfKind : GoodIn wsL_told (wsV RL 53 RX8 yX8_weightOfKind wsX8_weightOfKind) := goodIn_app (goodIn_r _ [74, 75, 76, 6] rfl (by decide +kernel)) ggL_told_X8_weightOfKind
set_option maxRecDepth 20000 in
theorem ggL_told_X8_leastOf : GoodIn wsL_told wsX8_leastOf := goodIn_ca (goodIn_r _ [81, 8, 70, 71, 72, 6, 73, 37, 38, 119, 120, 121, 122, 123, 124, 125, 126, 127, 128, 129, 145, 146, 147, 148] rfl (by decide +kernel)) (goodIn_sub (fun _ h => List.mem_cons_of_mem _ (List.mem_append_right _ h)) (by decide +kernel))
set_option maxRecDepth 20000 in
theorem gL_told_X8_leastOf : GoodIn wsL_told (wsV RL 56 RX8 yX8_leastOf wsX8_leastOf) := goodIn_app (goodIn_r _ [78, 79, 80, 6] rfl (by decide +kernel)) ggL_told_X8_leastOf
set_option maxRecDepth 20000 in
theorem ggL_told_X8_thingsOf : GoodIn wsL_told wsX8_thingsOf := goodIn_ca (goodIn_r _ [85, 8, 86, 87, 88, 6, 89, 37, 38, 90, 91, 92, 93, 94, 95, 96, 97, 98, 119, 120, 121, 122, 123, 124, 125, 126, 127, 128, 129, 143, 144] rfl (by decide +kernel)) (goodIn_sub (fun _ h => List.mem_cons_of_mem _ (List.mem_append_right _ h)) (by decide +kernel))
set_option maxRecDepth 20000 in
theorem gL_told_X8_thingsOf : GoodIn wsL_told (wsV RL 59 RX8 yX8_thingsOf wsX8_thingsOf) := goodIn_app (goodIn_r _ [82, 83, 84, 6] rfl (by decide +kernel)) ggL_told_X8_thingsOf
set_option maxRecDepth 20000 in
theorem ggL_told_X8_trips : GoodIn wsL_told wsX8_trips := goodIn_r _ [102, 8, 119, 120, 121, 122, 123, 124, 125, 126, 127, 128, 129, 136, 137, 138, 139, 140, 141, 142] rfl (by decide +kernel)
set_option maxRecDepth 20000 in
theorem gL_told_X8_trips : GoodIn wsL_told (wsV RL 62 RX8 yX8_trips wsX8_trips) := goodIn_app (goodIn_r _ [99, 100, 101, 6] rfl (by decide +kernel)) ggL_told_X8_trips
set_option maxRecDepth 20000 in
theorem ggL_told_X8_tripTicks : GoodIn wsL_told wsX8_tripTicks := goodIn_ca (goodIn_r _ [106, 8, 107, 108, 109, 6, 110, 37, 38, 119, 120, 121, 122, 123, 124, 125, 126, 127, 128, 129, 136, 137, 138, 139, 140, 141, 142] rfl (by decide +kernel)) (goodIn_sub (fun _ h => List.mem_cons_of_mem _ (List.mem_append_right _ h)) (by decide +kernel))
set_option maxRecDepth 20000 in
theorem gL_told_X8_tripTicks : GoodIn wsL_told (wsV RL 65 RX8 yX8_tripTicks wsX8_tripTicks) := goodIn_app (goodIn_r _ [103, 104, 105, 6] rfl (by decide +kernel)) ggL_told_X8_tripTicks
set_option maxRecDepth 20000 in
theorem ggL_told_X8_wasFetch : GoodIn wsL_told wsX8_wasFetch := goodIn_ca (goodIn_r _ [114, 8, 107, 108, 109, 6, 110, 37, 38, 119, 120, 121, 122, 123, 124, 125, 126, 127, 128, 129, 136, 137, 138, 139, 140, 141, 142] rfl (by decide +kernel)) (goodIn_sub (fun _ h => List.mem_cons_of_mem _ (List.mem_append_right _ h)) (by decide +kernel))
set_option maxRecDepth 20000 in
theorem gL_told_X8_wasFetch : GoodIn wsL_told (wsV RL 68 RX8 yX8_wasFetch wsX8_wasFetch) := goodIn_app (goodIn_r _ [111, 112, 113, 6] rfl (by decide +kernel)) ggL_told_X8_wasFetch
set_option maxRecDepth 20000 in
theorem ggL_told_X8_isKeptPlace : GoodIn wsL_told wsX8_isKeptPlace := goodIn_r _ [118, 8, 119, 120, 121, 122, 123, 124, 125, 126, 127, 128, 129, 136, 137, 138, 139, 140, 141, 142] rfl (by decide +kernel)
set_option maxRecDepth 20000 in
theorem gL_told_X8_isKeptPlace : GoodIn wsL_told (wsV RL 71 RX8 yX8_isKeptPlace wsX8_isKeptPlace) := goodIn_app (goodIn_r _ [115, 116, 117, 6] rfl (by decide +kernel)) ggL_told_X8_isKeptPlace
theorem dL_told_0 : decode cL_told 0 = .ok (.ldc2_w 8, 3) := by decide +kernel
theorem dL_told_3 : decode cL_told 3 = .ok (.lstore_n 1, 1) := by decide +kernel
theorem dL_told_4 : decode cL_told 4 = .ok (.ldc2_w 10, 3) := by decide +kernel
theorem dL_told_7 : decode cL_told 7 = .ok (.ldc2_w 10, 3) := by decide +kernel
theorem dL_told_10 : decode cL_told 10 = .ok (.ldc2_w 10, 3) := by decide +kernel
theorem dL_told_13 : decode cL_told 13 = .ok (.lload_n 1, 1) := by decide +kernel
theorem dL_told_14 : decode cL_told 14 = .ok (.lmul, 1) := by decide +kernel
theorem dL_told_15 : decode cL_told 15 = .ok (.aload_n 0, 1) := by decide +kernel
theorem dL_told_16 : decode cL_told 16 = .ok (.invokevirtual 12, 3) := by decide +kernel
theorem dL_told_19 : decode cL_told 19 = .ok (.i2l, 1) := by decide +kernel
theorem dL_told_20 : decode cL_told 20 = .ok (.ladd, 1) := by decide +kernel
theorem dL_told_21 : decode cL_told 21 = .ok (.lmul, 1) := by decide +kernel
theorem dL_told_22 : decode cL_told 22 = .ok (.aload_n 0, 1) := by decide +kernel
theorem dL_told_23 : decode cL_told 23 = .ok (.invokevirtual 18, 3) := by decide +kernel
theorem dL_told_26 : decode cL_told 26 = .ok (.i2l, 1) := by decide +kernel
theorem dL_told_27 : decode cL_told 27 = .ok (.ladd, 1) := by decide +kernel
theorem dL_told_28 : decode cL_told 28 = .ok (.lmul, 1) := by decide +kernel
theorem dL_told_29 : decode cL_told 29 = .ok (.aload_n 0, 1) := by decide +kernel
theorem dL_told_30 : decode cL_told 30 = .ok (.invokevirtual 21, 3) := by decide +kernel
theorem dL_told_33 : decode cL_told 33 = .ok (.i2l, 1) := by decide +kernel
theorem dL_told_34 : decode cL_told 34 = .ok (.ladd, 1) := by decide +kernel
theorem dL_told_35 : decode cL_told 35 = .ok (.lstore_n 1, 1) := by decide +kernel
theorem dL_told_36 : decode cL_told 36 = .ok (.ldc2_w 10, 3) := by decide +kernel
theorem dL_told_39 : decode cL_told 39 = .ok (.ldc2_w 10, 3) := by decide +kernel
theorem dL_told_42 : decode cL_told 42 = .ok (.ldc2_w 10, 3) := by decide +kernel
theorem dL_told_45 : decode cL_told 45 = .ok (.lload_n 1, 1) := by decide +kernel
theorem dL_told_46 : decode cL_told 46 = .ok (.lmul, 1) := by decide +kernel
theorem dL_told_47 : decode cL_told 47 = .ok (.aload_n 0, 1) := by decide +kernel
theorem dL_told_48 : decode cL_told 48 = .ok (.invokevirtual 24, 3) := by decide +kernel
theorem dL_told_51 : decode cL_told 51 = .ok (.i2l, 1) := by decide +kernel
theorem dL_told_52 : decode cL_told 52 = .ok (.ladd, 1) := by decide +kernel
theorem dL_told_53 : decode cL_told 53 = .ok (.lmul, 1) := by decide +kernel
theorem dL_told_54 : decode cL_told 54 = .ok (.aload_n 0, 1) := by decide +kernel
theorem dL_told_55 : decode cL_told 55 = .ok (.invokevirtual 27, 3) := by decide +kernel
theorem dL_told_58 : decode cL_told 58 = .ok (.i2l, 1) := by decide +kernel
theorem dL_told_59 : decode cL_told 59 = .ok (.ladd, 1) := by decide +kernel
theorem dL_told_60 : decode cL_told 60 = .ok (.lmul, 1) := by decide +kernel
theorem dL_told_61 : decode cL_told 61 = .ok (.aload_n 0, 1) := by decide +kernel
theorem dL_told_62 : decode cL_told 62 = .ok (.invokevirtual 30, 3) := by decide +kernel
theorem dL_told_65 : decode cL_told 65 = .ok (.i2l, 1) := by decide +kernel
theorem dL_told_66 : decode cL_told 66 = .ok (.ladd, 1) := by decide +kernel
theorem dL_told_67 : decode cL_told 67 = .ok (.lstore_n 1, 1) := by decide +kernel
theorem dL_told_68 : decode cL_told 68 = .ok (.iconst 0, 1) := by decide +kernel
theorem dL_told_69 : decode cL_told 69 = .ok (.istore_n 3, 1) := by decide +kernel
theorem dL_told_70 : decode cL_told 70 = .ok (.iload_n 3, 1) := by decide +kernel
theorem dL_told_71 : decode cL_told 71 = .ok (.aload_n 0, 1) := by decide +kernel
theorem dL_told_72 : decode cL_told 72 = .ok (.invokevirtual 12, 3) := by decide +kernel
theorem dL_told_75 : decode cL_told 75 = .ok (.if_icmp .ge 76, 3) := by decide +kernel
theorem dL_told_78 : decode cL_told 78 = .ok (.ldc2_w 10, 3) := by decide +kernel
theorem dL_told_81 : decode cL_told 81 = .ok (.ldc2_w 10, 3) := by decide +kernel
theorem dL_told_84 : decode cL_told 84 = .ok (.ldc2_w 10, 3) := by decide +kernel
theorem dL_told_87 : decode cL_told 87 = .ok (.lload_n 1, 1) := by decide +kernel
theorem dL_told_88 : decode cL_told 88 = .ok (.lmul, 1) := by decide +kernel
theorem dL_told_89 : decode cL_told 89 = .ok (.aload_n 0, 1) := by decide +kernel
theorem dL_told_90 : decode cL_told 90 = .ok (.iload_n 3, 1) := by decide +kernel
theorem dL_told_91 : decode cL_told 91 = .ok (.invokevirtual 33, 3) := by decide +kernel
theorem dL_told_94 : decode cL_told 94 = .ok (.i2l, 1) := by decide +kernel
theorem dL_told_95 : decode cL_told 95 = .ok (.ladd, 1) := by decide +kernel
theorem dL_told_96 : decode cL_told 96 = .ok (.lmul, 1) := by decide +kernel
theorem dL_told_97 : decode cL_told 97 = .ok (.aload_n 0, 1) := by decide +kernel
theorem dL_told_98 : decode cL_told 98 = .ok (.iload_n 3, 1) := by decide +kernel
theorem dL_told_99 : decode cL_told 99 = .ok (.invokevirtual 37, 3) := by decide +kernel
theorem dL_told_102 : decode cL_told 102 = .ok (.i2l, 1) := by decide +kernel
theorem dL_told_103 : decode cL_told 103 = .ok (.ladd, 1) := by decide +kernel
theorem dL_told_104 : decode cL_told 104 = .ok (.lmul, 1) := by decide +kernel
theorem dL_told_105 : decode cL_told 105 = .ok (.aload_n 0, 1) := by decide +kernel
theorem dL_told_106 : decode cL_told 106 = .ok (.iload_n 3, 1) := by decide +kernel
theorem dL_told_107 : decode cL_told 107 = .ok (.invokevirtual 40, 3) := by decide +kernel
theorem dL_told_110 : decode cL_told 110 = .ok (.i2l, 1) := by decide +kernel
theorem dL_told_111 : decode cL_told 111 = .ok (.ladd, 1) := by decide +kernel
theorem dL_told_112 : decode cL_told 112 = .ok (.lstore_n 1, 1) := by decide +kernel
theorem dL_told_113 : decode cL_told 113 = .ok (.ldc2_w 10, 3) := by decide +kernel
theorem dL_told_116 : decode cL_told 116 = .ok (.ldc2_w 10, 3) := by decide +kernel
theorem dL_told_119 : decode cL_told 119 = .ok (.lload_n 1, 1) := by decide +kernel
theorem dL_told_120 : decode cL_told 120 = .ok (.lmul, 1) := by decide +kernel
theorem dL_told_121 : decode cL_told 121 = .ok (.aload_n 0, 1) := by decide +kernel
theorem dL_told_122 : decode cL_told 122 = .ok (.iload_n 3, 1) := by decide +kernel
theorem dL_told_123 : decode cL_told 123 = .ok (.invokevirtual 43, 3) := by decide +kernel
theorem dL_told_126 : decode cL_told 126 = .ok (.ifCond .eq 7, 3) := by decide +kernel
theorem dL_told_129 : decode cL_told 129 = .ok (.iconst 1, 1) := by decide +kernel
theorem dL_told_130 : decode cL_told 130 = .ok (.goto 4, 3) := by decide +kernel
theorem dL_told_133 : decode cL_told 133 = .ok (.iconst 0, 1) := by decide +kernel
theorem dL_told_134 : decode cL_told 134 = .ok (.i2l, 1) := by decide +kernel
theorem dL_told_135 : decode cL_told 135 = .ok (.ladd, 1) := by decide +kernel
theorem dL_told_136 : decode cL_told 136 = .ok (.lmul, 1) := by decide +kernel
theorem dL_told_137 : decode cL_told 137 = .ok (.aload_n 0, 1) := by decide +kernel
theorem dL_told_138 : decode cL_told 138 = .ok (.iload_n 3, 1) := by decide +kernel
theorem dL_told_139 : decode cL_told 139 = .ok (.invokevirtual 47, 3) := by decide +kernel
theorem dL_told_142 : decode cL_told 142 = .ok (.i2l, 1) := by decide +kernel
theorem dL_told_143 : decode cL_told 143 = .ok (.ladd, 1) := by decide +kernel
theorem dL_told_144 : decode cL_told 144 = .ok (.lstore_n 1, 1) := by decide +kernel
theorem dL_told_145 : decode cL_told 145 = .ok (.iinc 3 1, 3) := by decide +kernel
theorem dL_told_148 : decode cL_told 148 = .ok (.goto (-78), 3) := by decide +kernel
theorem dL_told_151 : decode cL_told 151 = .ok (.iconst 0, 1) := by decide +kernel
theorem dL_told_152 : decode cL_told 152 = .ok (.istore_n 3, 1) := by decide +kernel
theorem dL_told_153 : decode cL_told 153 = .ok (.iload_n 3, 1) := by decide +kernel
theorem dL_told_154 : decode cL_told 154 = .ok (.bipush 10, 2) := by decide +kernel
theorem dL_told_156 : decode cL_told 156 = .ok (.if_icmp .ge 44, 3) := by decide +kernel
theorem dL_told_159 : decode cL_told 159 = .ok (.ldc2_w 10, 3) := by decide +kernel
theorem dL_told_162 : decode cL_told 162 = .ok (.ldc2_w 10, 3) := by decide +kernel
theorem dL_told_165 : decode cL_told 165 = .ok (.ldc2_w 10, 3) := by decide +kernel
theorem dL_told_168 : decode cL_told 168 = .ok (.lload_n 1, 1) := by decide +kernel
theorem dL_told_169 : decode cL_told 169 = .ok (.lmul, 1) := by decide +kernel
theorem dL_told_170 : decode cL_told 170 = .ok (.aload_n 0, 1) := by decide +kernel
theorem dL_told_171 : decode cL_told 171 = .ok (.iload_n 3, 1) := by decide +kernel
theorem dL_told_172 : decode cL_told 172 = .ok (.invokevirtual 50, 3) := by decide +kernel
theorem dL_told_175 : decode cL_told 175 = .ok (.i2l, 1) := by decide +kernel
theorem dL_told_176 : decode cL_told 176 = .ok (.ladd, 1) := by decide +kernel
theorem dL_told_177 : decode cL_told 177 = .ok (.lmul, 1) := by decide +kernel
theorem dL_told_178 : decode cL_told 178 = .ok (.aload_n 0, 1) := by decide +kernel
theorem dL_told_179 : decode cL_told 179 = .ok (.iload_n 3, 1) := by decide +kernel
theorem dL_told_180 : decode cL_told 180 = .ok (.invokevirtual 53, 3) := by decide +kernel
theorem dL_told_183 : decode cL_told 183 = .ok (.i2l, 1) := by decide +kernel
theorem dL_told_184 : decode cL_told 184 = .ok (.ladd, 1) := by decide +kernel
theorem dL_told_185 : decode cL_told 185 = .ok (.lmul, 1) := by decide +kernel
theorem dL_told_186 : decode cL_told 186 = .ok (.aload_n 0, 1) := by decide +kernel
theorem dL_told_187 : decode cL_told 187 = .ok (.iload_n 3, 1) := by decide +kernel
theorem dL_told_188 : decode cL_told 188 = .ok (.invokevirtual 56, 3) := by decide +kernel
theorem dL_told_191 : decode cL_told 191 = .ok (.i2l, 1) := by decide +kernel
theorem dL_told_192 : decode cL_told 192 = .ok (.ladd, 1) := by decide +kernel
theorem dL_told_193 : decode cL_told 193 = .ok (.lstore_n 1, 1) := by decide +kernel
theorem dL_told_194 : decode cL_told 194 = .ok (.iinc 3 1, 3) := by decide +kernel
theorem dL_told_197 : decode cL_told 197 = .ok (.goto (-44), 3) := by decide +kernel
theorem dL_told_200 : decode cL_told 200 = .ok (.iconst 0, 1) := by decide +kernel
theorem dL_told_201 : decode cL_told 201 = .ok (.istore_n 3, 1) := by decide +kernel
theorem dL_told_202 : decode cL_told 202 = .ok (.iload_n 3, 1) := by decide +kernel
theorem dL_told_203 : decode cL_told 203 = .ok (.aload_n 0, 1) := by decide +kernel
theorem dL_told_204 : decode cL_told 204 = .ok (.invokevirtual 30, 3) := by decide +kernel
theorem dL_told_207 : decode cL_told 207 = .ok (.if_icmp .ge 22, 3) := by decide +kernel
theorem dL_told_210 : decode cL_told 210 = .ok (.ldc2_w 10, 3) := by decide +kernel
theorem dL_told_213 : decode cL_told 213 = .ok (.lload_n 1, 1) := by decide +kernel
theorem dL_told_214 : decode cL_told 214 = .ok (.lmul, 1) := by decide +kernel
theorem dL_told_215 : decode cL_told 215 = .ok (.aload_n 0, 1) := by decide +kernel
theorem dL_told_216 : decode cL_told 216 = .ok (.iload_n 3, 1) := by decide +kernel
theorem dL_told_217 : decode cL_told 217 = .ok (.invokevirtual 59, 3) := by decide +kernel
theorem dL_told_220 : decode cL_told 220 = .ok (.i2l, 1) := by decide +kernel
theorem dL_told_221 : decode cL_told 221 = .ok (.ladd, 1) := by decide +kernel
theorem dL_told_222 : decode cL_told 222 = .ok (.lstore_n 1, 1) := by decide +kernel
theorem dL_told_223 : decode cL_told 223 = .ok (.iinc 3 1, 3) := by decide +kernel
theorem dL_told_226 : decode cL_told 226 = .ok (.goto (-24), 3) := by decide +kernel
theorem dL_told_229 : decode cL_told 229 = .ok (.iconst 0, 1) := by decide +kernel
theorem dL_told_230 : decode cL_told 230 = .ok (.istore_n 3, 1) := by decide +kernel
theorem dL_told_231 : decode cL_told 231 = .ok (.iload_n 3, 1) := by decide +kernel
theorem dL_told_232 : decode cL_told 232 = .ok (.aload_n 0, 1) := by decide +kernel
theorem dL_told_233 : decode cL_told 233 = .ok (.invokevirtual 62, 3) := by decide +kernel
theorem dL_told_236 : decode cL_told 236 = .ok (.if_icmp .ge 41, 3) := by decide +kernel
theorem dL_told_239 : decode cL_told 239 = .ok (.ldc2_w 10, 3) := by decide +kernel
theorem dL_told_242 : decode cL_told 242 = .ok (.ldc2_w 10, 3) := by decide +kernel
theorem dL_told_245 : decode cL_told 245 = .ok (.lload_n 1, 1) := by decide +kernel
theorem dL_told_246 : decode cL_told 246 = .ok (.lmul, 1) := by decide +kernel
theorem dL_told_247 : decode cL_told 247 = .ok (.aload_n 0, 1) := by decide +kernel
theorem dL_told_248 : decode cL_told 248 = .ok (.iload_n 3, 1) := by decide +kernel
theorem dL_told_249 : decode cL_told 249 = .ok (.invokevirtual 65, 3) := by decide +kernel
theorem dL_told_252 : decode cL_told 252 = .ok (.i2l, 1) := by decide +kernel
theorem dL_told_253 : decode cL_told 253 = .ok (.ladd, 1) := by decide +kernel
theorem dL_told_254 : decode cL_told 254 = .ok (.lmul, 1) := by decide +kernel
theorem dL_told_255 : decode cL_told 255 = .ok (.aload_n 0, 1) := by decide +kernel
theorem dL_told_256 : decode cL_told 256 = .ok (.iload_n 3, 1) := by decide +kernel
theorem dL_told_257 : decode cL_told 257 = .ok (.invokevirtual 68, 3) := by decide +kernel
theorem dL_told_260 : decode cL_told 260 = .ok (.ifCond .eq 7, 3) := by decide +kernel
theorem dL_told_263 : decode cL_told 263 = .ok (.iconst 1, 1) := by decide +kernel
theorem dL_told_264 : decode cL_told 264 = .ok (.goto 4, 3) := by decide +kernel
theorem dL_told_267 : decode cL_told 267 = .ok (.iconst 0, 1) := by decide +kernel
theorem dL_told_268 : decode cL_told 268 = .ok (.i2l, 1) := by decide +kernel
theorem dL_told_269 : decode cL_told 269 = .ok (.ladd, 1) := by decide +kernel
theorem dL_told_270 : decode cL_told 270 = .ok (.lstore_n 1, 1) := by decide +kernel
theorem dL_told_271 : decode cL_told 271 = .ok (.iinc 3 1, 3) := by decide +kernel
theorem dL_told_274 : decode cL_told 274 = .ok (.goto (-43), 3) := by decide +kernel
theorem dL_told_277 : decode cL_told 277 = .ok (.ldc2_w 10, 3) := by decide +kernel
theorem dL_told_280 : decode cL_told 280 = .ok (.lload_n 1, 1) := by decide +kernel
theorem dL_told_281 : decode cL_told 281 = .ok (.lmul, 1) := by decide +kernel
theorem dL_told_282 : decode cL_told 282 = .ok (.aload_n 0, 1) := by decide +kernel
theorem dL_told_283 : decode cL_told 283 = .ok (.invokevirtual 71, 3) := by decide +kernel
theorem dL_told_286 : decode cL_told 286 = .ok (.ifCond .eq 7, 3) := by decide +kernel
theorem dL_told_289 : decode cL_told 289 = .ok (.iconst 1, 1) := by decide +kernel
theorem dL_told_290 : decode cL_told 290 = .ok (.goto 4, 3) := by decide +kernel
theorem dL_told_293 : decode cL_told 293 = .ok (.iconst 0, 1) := by decide +kernel
theorem dL_told_294 : decode cL_told 294 = .ok (.i2l, 1) := by decide +kernel
theorem dL_told_295 : decode cL_told 295 = .ok (.ladd, 1) := by decide +kernel
theorem dL_told_296 : decode cL_told 296 = .ok (.lreturn, 1) := by decide +kernel
set_option maxRecDepth 20000 in
theorem ggL_act_X8_shelves : GoodIn wsL_act wsX8_shelves := goodIn_r _ [5, 6, 362, 363, 364, 365, 366, 367, 368, 369, 370, 371, 372, 373, 374, 375, 376, 377, 378] rfl (by decide +kernel)
set_option maxRecDepth 20000 in
theorem gL_act_X8_shelves : GoodIn wsL_act (wsV RL 12 RX8 yX8_shelves wsX8_shelves) := goodIn_app (goodIn_r _ [1, 2, 3, 4] rfl (by decide +kernel)) ggL_act_X8_shelves
set_option maxRecDepth 20000 in
theorem ggL_act_L_low : GoodIn wsL_act wsL_low := goodIn_r _ [10, 11] rfl (by decide +kernel)
set_option maxRecDepth 20000 in
theorem gL_act_L_low : GoodIn wsL_act (va_wsS RL 75 yL_low wsL_low) := goodIn_app (goodIn_r _ [7, 8, 9] rfl (by decide +kernel)) ggL_act_L_low
set_option maxRecDepth 20000 in
theorem ggL_act_X8_isAtWindow : GoodIn wsL_act wsX8_isAtWindow := goodIn_ca (goodIn_r _ [15, 6, 16, 17, 18, 4, 19, 20, 21, 362, 363, 364, 365, 366, 367, 368, 369, 370, 371, 372, 373, 374, 375, 376, 377, 378] rfl (by decide +kernel)) (goodIn_sub (fun _ h => List.mem_cons_of_mem _ (List.mem_append_left _ (List.mem_append_left _ (List.mem_append_right _ h)))) (by decide +kernel))
set_option maxRecDepth 20000 in
theorem gL_act_X8_isAtWindow : GoodIn wsL_act (wsV RL 43 RX8 yX8_isAtWindow wsX8_isAtWindow) := goodIn_app (goodIn_r _ [12, 13, 14, 4] rfl (by decide +kernel)) ggL_act_X8_isAtWindow
set_option maxRecDepth 20000 in
theorem ggL_act_X8_longestGap : GoodIn wsL_act wsX8_longestGap := goodIn_ca (goodIn_r _ [25, 6, 26, 27, 28, 4, 29, 20, 21, 30, 31, 32, 33, 34, 35, 36, 37, 38, 39, 40, 41, 42, 43, 44, 45, 46, 47, 48, 49, 50, 51, 362, 363, 364, 365, 366, 367, 368, 369, 370, 371, 372, 373, 374, 375, 376, 377, 378] rfl (by decide +kernel)) (goodIn_sub (fun _ h => List.mem_cons_of_mem _ (List.mem_append_left _ (List.mem_append_left _ (List.mem_append_right _ h)))) (by decide +kernel))
set_option maxRecDepth 20000 in
theorem gL_act_X8_longestGap : GoodIn wsL_act (wsV RL 81 RX8 yX8_longestGap wsX8_longestGap) := goodIn_app (goodIn_r _ [22, 23, 24, 4] rfl (by decide +kernel)) ggL_act_X8_longestGap
set_option maxRecDepth 20000 in
theorem ggL_act_X8_addShelf : GoodIn wsL_act wsX8_addShelf := goodIn_ca (goodIn_ca (goodIn_r _ [55, 56, 57, 6, 58, 59, 60, 61, 4, 62, 63, 64, 65, 66, 67, 68, 69, 31, 70, 71, 38, 39, 40, 41, 42, 43, 44, 45, 46, 47, 48, 72, 73, 74, 49, 50, 51, 75, 76, 77, 78, 79, 80, 81, 82, 83, 84, 85, 86, 87, 88, 89, 90, 91, 92, 93, 94, 95, 96, 97, 98, 99, 100, 101, 102, 103, 104, 105, 106, 107, 108, 109, 110, 111, 112, 113, 114, 115, 116, 117, 118, 119, 120, 121, 122, 123, 124, 125, 126, 127, 128, 129, 130, 131, 132, 133, 134, 135, 136, 137, 138, 139, 140, 141, 142, 143, 144, 145, 146, 147, 148, 149, 150, 151, 152, 153, 154, 155, 156, 157, 158, 159, 160, 161, 362, 363, 364, 365, 366, 367, 368, 369, 370, 371, 372, 373, 374, 375, 376, 377, 378, 379, 380, 381, 382, 383, 384, 385, 386, 387, 388, 389, 390, 391, 392, 393, 394] rfl (by decide +kernel)) (goodIn_sub (fun _ h => List.mem_cons_of_mem _ (List.mem_append_left _ (List.mem_append_right _ h))) (by decide +kernel))) (goodIn_sub (fun _ h => List.mem_cons_of_mem _ (List.mem_append_right _ h)) (by decide +kernel))
set_option maxRecDepth 20000 in
theorem gL_act_X8_addShelf : GoodIn wsL_act (wsV RL 84 RX8 yX8_addShelf wsX8_addShelf) := goodIn_app (goodIn_r _ [52, 53, 54, 4] rfl (by decide +kernel)) ggL_act_X8_addShelf
set_option maxRecDepth 20000 in
theorem ggL_act_X8_weightOf : GoodIn wsL_act wsX8_weightOf := goodIn_ca (goodIn_r _ [165, 6, 16, 17, 18, 4, 19, 20, 21, 166, 83, 167, 168, 95, 103, 169, 31, 170, 171, 114, 362, 363, 364, 365, 366, 367, 368, 369, 370, 371, 372, 373, 374, 375, 376, 377, 378, 389, 390, 391, 392] rfl (by decide +kernel)) (goodIn_sub (fun _ h => List.mem_cons_of_mem _ (List.mem_append_left _ (List.mem_append_left _ (List.mem_append_right _ h)))) (by decide +kernel))
set_option maxRecDepth 20000 in
theorem gL_act_X8_weightOf : GoodIn wsL_act (wsV RL 47 RX8 yX8_weightOf wsX8_weightOf) := goodIn_app (goodIn_r _ [162, 163, 164, 4] rfl (by decide +kernel)) ggL_act_X8_weightOf
set_option maxRecDepth 20000 in
theorem ggL_act_X8_scrap : GoodIn wsL_act wsX8_scrap := goodIn_ca (goodIn_ca (goodIn_r _ [175, 56, 57, 6, 58, 16, 17, 18, 4, 19, 20, 21, 176, 31, 177, 178, 179, 169, 170, 171, 114, 75, 76, 77, 78, 79, 80, 81, 82, 83, 84, 85, 86, 87, 88, 89, 90, 91, 92, 93, 94, 95, 96, 97, 98, 99, 100, 101, 102, 103, 104, 105, 106, 107, 108, 109, 110, 111, 42, 43, 112, 45, 44, 113, 115, 116, 117, 118, 119, 120, 121, 122, 123, 124, 125, 126, 127, 128, 129, 130, 131, 132, 133, 134, 135, 136, 137, 138, 139, 140, 141, 142, 143, 144, 145, 146, 147, 148, 149, 150, 151, 152, 153, 154, 155, 156, 157, 158, 180, 181, 182, 362, 363, 364, 365, 366, 367, 368, 369, 370, 371, 372, 373, 374, 375, 376, 377, 378, 379, 380, 381, 382, 383, 384, 385, 386, 387, 388, 389, 390, 391, 392, 393, 394] rfl (by decide +kernel)) (goodIn_sub (fun _ h => List.mem_cons_of_mem _ (List.mem_append_left _ (List.mem_append_right _ h))) (by decide +kernel))) (goodIn_sub (fun _ h => List.mem_cons_of_mem _ (List.mem_append_left _ (List.mem_append_left _ (List.mem_append_right _ h)))) (by decide +kernel))
set_option maxRecDepth 20000 in
theorem gL_act_X8_scrap : GoodIn wsL_act (wsV RL 87 RX8 yX8_scrap wsX8_scrap) := goodIn_app (goodIn_r _ [172, 173, 174, 4] rfl (by decide +kernel)) ggL_act_X8_scrap
set_option maxRecDepth 20000 in
theorem ggL_act_X8_stow : GoodIn wsL_act wsX8_stow := goodIn_ca (goodIn_r _ [186, 58, 6, 187, 188, 189, 4, 190, 56, 57, 75, 76, 77, 78, 79, 80, 81, 82, 83, 84, 85, 86, 87, 88, 89, 90, 91, 92, 93, 94, 31, 95, 96, 97, 98, 99, 100, 101, 102, 103, 104, 105, 106, 107, 108, 109, 110, 111, 42, 43, 112, 45, 44, 113, 114, 115, 116, 117, 118, 119, 120, 121, 122, 123, 124, 125, 126, 127, 128, 129, 130, 131, 132, 133, 134, 135, 136, 137, 138, 139, 140, 141, 142, 143, 144, 145, 146, 147, 148, 149, 150, 151, 152, 153, 154, 155, 156, 157, 158, 191, 192, 193, 69, 70, 71, 38, 39, 40, 41, 46, 47, 48, 72, 73, 74, 49, 50, 51, 194, 195, 196, 197, 198, 199, 200, 201, 202, 203, 204, 36, 205, 362, 363, 364, 365, 366, 367, 368, 369, 370, 371, 372, 373, 374, 375, 376, 377, 378, 379, 380, 381, 382, 383, 384, 385, 386, 387, 388, 389, 390, 391, 392, 393, 394] rfl (by decide +kernel)) (goodIn_sub (fun _ h => List.mem_cons_of_mem _ (List.mem_append_left _ (List.mem_append_right _ h))) (by decide +kernel))
set_option maxRecDepth 20000 in
theorem gL_act_X8_stow : GoodIn wsL_act (wsV RL 90 RX8 yX8_stow wsX8_stow) := goodIn_app (goodIn_r _ [183, 184, 185, 4] rfl (by decide +kernel)) ggL_act_X8_stow
set_option maxRecDepth 20000 in
theorem ggL_act_X8_fetch : GoodIn wsL_act wsX8_fetch := goodIn_ca (goodIn_ca (goodIn_r _ [209, 58, 6, 16, 17, 18, 4, 19, 20, 21, 65, 66, 67, 68, 56, 57, 75, 76, 77, 78, 79, 80, 81, 82, 83, 84, 85, 86, 87, 88, 89, 90, 91, 92, 93, 94, 31, 95, 96, 97, 98, 99, 100, 101, 102, 103, 104, 105, 106, 107, 108, 109, 110, 111, 42, 43, 112, 45, 44, 113, 114, 115, 116, 117, 118, 119, 120, 121, 122, 123, 124, 125, 126, 127, 128, 129, 130, 131, 132, 133, 134, 135, 136, 137, 138, 139, 140, 141, 142, 143, 144, 145, 146, 147, 148, 149, 150, 151, 152, 153, 154, 155, 156, 157, 158, 210, 211, 212, 213, 214, 215, 216, 217, 218, 36, 219, 198, 199, 200, 201, 202, 203, 204, 205, 362, 363, 364, 365, 366, 367, 368, 369, 370, 371, 372, 373, 374, 375, 376, 377, 378, 379, 380, 381, 382, 383, 384, 385, 386, 387, 388, 389, 390, 391, 392, 393, 394] rfl (by decide +kernel)) (goodIn_sub (fun _ h => List.mem_cons_of_mem _ (List.mem_append_left _ (List.mem_append_left _ (List.mem_append_right _ h)))) (by decide +kernel))) (goodIn_sub (fun _ h => List.mem_cons_of_mem _ (List.mem_append_left _ (List.mem_append_right _ h))) (by decide +kernel))
set_option maxRecDepth 20000 in
theorem gL_act_X8_fetch : GoodIn wsL_act (wsV RL 93 RX8 yX8_fetch wsX8_fetch) := goodIn_app (goodIn_r _ [206, 207, 208, 4] rfl (by decide +kernel)) ggL_act_X8_fetch
set_option maxRecDepth 20000 in
theorem ggL_act_X8_weightOfKind : GoodIn wsL_act wsX8_weightOfKind := goodIn_ca (goodIn_r _ [223, 6, 224, 225, 226, 4, 227, 20, 21, 362, 363, 364, 365, 366, 367, 368, 369, 370, 371, 372, 389, 390, 391, 392] rfl (by decide +kernel)) (goodIn_sub (fun _ h => List.mem_cons_of_mem _ (List.mem_append_left _ (List.mem_append_left _ (List.mem_append_right _ h)))) (by decide +kernel))
set_option maxRecDepth 20000 in
theorem gL_act_X8_weightOfKind : GoodIn wsL_act (wsV RL 53 RX8 yX8_weightOfKind wsX8_weightOfKind) := goodIn_app (goodIn_r _ [220, 221, 222, 4] rfl (by decide +kernel)) ggL_act_X8_weightOfKind
set_option maxRecDepth 20000 in
theorem ggL_act_X8_fill : GoodIn wsL_act wsX8_fill := goodIn_ca (goodIn_ca (goodIn_ca (goodIn_r _ [231, 56, 57, 6, 58, 224, 225, 226, 4, 227, 20, 21, 232, 233, 234, 235, 63, 64, 187, 188, 189, 190, 166, 83, 167, 168, 95, 103, 169, 31, 170, 171, 114, 75, 76, 77, 78, 79, 80, 81, 82, 84, 85, 86, 87, 88, 89, 90, 91, 92, 93, 94, 96, 97, 98, 99, 100, 101, 102, 104, 105, 106, 107, 108, 109, 110, 111, 42, 43, 112, 45, 44, 113, 115, 116, 117, 118, 119, 120, 121, 122, 123, 124, 125, 126, 127, 128, 129, 130, 131, 132, 133, 134, 135, 136, 137, 138, 139, 140, 141, 142, 143, 144, 145, 146, 147, 148, 149, 150, 151, 152, 153, 154, 155, 156, 157, 158, 236, 237, 238, 362, 363, 364, 365, 366, 367, 368, 369, 370, 371, 372, 373, 374, 375, 376, 377, 378, 389, 390, 391, 392, 379, 380, 381, 382, 383, 384, 385, 386, 387, 388, 393, 394] rfl (by decide +kernel)) (goodIn_sub (fun _ h => List.mem_cons_of_mem _ (List.mem_append_left _ (List.mem_append_right _ h))) (by decide +kernel))) (goodIn_sub (fun _ h => List.mem_cons_of_mem _ (List.mem_append_left _ (List.mem_append_left _ (List.mem_append_right _ h)))) (by decide +kernel))) (goodIn_sub (fun _ h => List.mem_cons_of_mem _ (List.mem_append_right _ h)) (by decide +kernel))
set_option maxRecDepth 20000 in
theorem gL_act_X8_fill : GoodIn wsL_act (wsV RL 96 RX8 yX8_fill wsX8_fill) := goodIn_app (goodIn_r _ [228, 229, 230, 4] rfl (by decide +kernel)) ggL_act_X8_fill
set_option maxRecDepth 20000 in
theorem ggL_act_X8_thingsIn : GoodIn wsL_act wsX8_thingsIn := goodIn_ca (goodIn_r _ [242, 6, 16, 17, 18, 4, 19, 20, 21, 224, 225, 226, 227, 169, 31, 170, 171, 114, 362, 363, 364, 365, 366, 367, 368, 369, 370, 371, 372, 373, 374, 375, 376, 377, 378] rfl (by decide +kernel)) (goodIn_sub (fun _ h => List.mem_cons_of_mem _ (List.mem_append_left _ (List.mem_append_left _ (List.mem_append_right _ h)))) (by decide +kernel))
set_option maxRecDepth 20000 in
theorem gL_act_X8_thingsIn : GoodIn wsL_act (wsV RL 99 RX8 yX8_thingsIn wsX8_thingsIn) := goodIn_app (goodIn_r _ [239, 240, 241, 4] rfl (by decide +kernel)) ggL_act_X8_thingsIn
set_option maxRecDepth 20000 in
theorem ggL_act_X8_take : GoodIn wsL_act wsX8_take := goodIn_ca (goodIn_ca (goodIn_ca (goodIn_r _ [246, 56, 57, 6, 58, 224, 225, 226, 4, 227, 20, 21, 232, 233, 234, 235, 63, 64, 187, 188, 189, 190, 169, 31, 170, 171, 114, 75, 76, 77, 78, 79, 80, 81, 82, 83, 84, 85, 86, 87, 88, 89, 90, 91, 92, 93, 94, 95, 96, 97, 98, 99, 100, 101, 102, 103, 104, 105, 106, 107, 108, 109, 110, 111, 42, 43, 112, 45, 44, 113, 115, 116, 117, 118, 119, 120, 121, 122, 123, 124, 125, 126, 127, 128, 129, 130, 131, 132, 133, 134, 135, 136, 137, 138, 139, 140, 141, 142, 143, 144, 145, 146, 147, 148, 149, 150, 151, 152, 153, 154, 155, 156, 157, 158, 236, 237, 238, 362, 363, 364, 365, 366, 367, 368, 369, 370, 371, 372, 373, 374, 375, 376, 377, 378, 389, 390, 391, 392, 379, 380, 381, 382, 383, 384, 385, 386, 387, 388, 393, 394] rfl (by decide +kernel)) (goodIn_sub (fun _ h => List.mem_cons_of_mem _ (List.mem_append_left _ (List.mem_append_right _ h))) (by decide +kernel))) (goodIn_sub (fun _ h => List.mem_cons_of_mem _ (List.mem_append_left _ (List.mem_append_left _ (List.mem_append_right _ h)))) (by decide +kernel))) (goodIn_sub (fun _ h => List.mem_cons_of_mem _ (List.mem_append_right _ h)) (by decide +kernel))
set_option maxRecDepth 20000 in
theorem gL_act_X8_take : GoodIn wsL_act (wsV RL 102 RX8 yX8_take wsX8_take) := goodIn_app (goodIn_r _ [243, 244, 245, 4] rfl (by decide +kernel)) ggL_act_X8_take
set_option maxRecDepth 20000 in
theorem ggL_act_X8_orders : GoodIn wsL_act wsX8_orders := goodIn_r _ [250, 6, 362, 363, 364, 365, 366, 367, 368, 369, 370, 371, 372, 393, 394] rfl (by decide +kernel)
set_option maxRecDepth 20000 in
theorem gL_act_X8_orders : GoodIn wsL_act (wsV RL 30 RX8 yX8_orders wsX8_orders) := goodIn_app (goodIn_r _ [247, 248, 249, 4] rfl (by decide +kernel)) ggL_act_X8_orders
set_option maxRecDepth 20000 in
theorem ggL_act_X8_clearBuffer : GoodIn wsL_act wsX8_clearBuffer := goodIn_r _ [254, 255, 362, 363, 364, 365, 366, 367, 395, 396, 397] rfl (by decide +kernel)
set_option maxRecDepth 20000 in
theorem gL_act_X8_clearBuffer : GoodIn wsL_act (wsV RL 105 RX8 yX8_clearBuffer wsX8_clearBuffer) := goodIn_app (goodIn_r _ [251, 252, 253, 4] rfl (by decide +kernel)) ggL_act_X8_clearBuffer
set_option maxRecDepth 20000 in
theorem ggL_act_X8_append : GoodIn wsL_act wsX8_append := goodIn_ca (goodIn_ca (goodIn_r _ [259, 63, 64, 56, 57, 255, 362, 363, 364, 365, 366, 367, 395, 396, 397] rfl (by decide +kernel)) (goodIn_sub (fun _ h => List.mem_cons_of_mem _ (List.mem_append_right _ h)) (by decide +kernel))) (goodIn_sub (fun _ h => List.mem_cons_of_mem _ (List.mem_append_left _ (List.mem_append_right _ h))) (by decide +kernel))
set_option maxRecDepth 20000 in
theorem gL_act_X8_append : GoodIn wsL_act (wsV RL 108 RX8 yX8_append wsX8_append) := goodIn_app (goodIn_r _ [256, 257, 258, 4] rfl (by decide +kernel)) ggL_act_X8_append
set_option maxRecDepth 20000 in
theorem ggL_act_X8_accept : GoodIn wsL_act wsX8_accept := goodIn_ca (goodIn_ca (goodIn_r _ [263, 63, 64, 56, 57, 255, 6, 58, 264, 265, 266, 267, 268, 269, 270, 271, 272, 273, 274, 275, 276, 277, 278, 279, 280, 281, 282, 283, 284, 285, 286, 287, 288, 289, 290, 291, 292, 293, 294, 295, 296, 297, 298, 299, 75, 76, 77, 78, 79, 80, 81, 82, 83, 84, 85, 86, 87, 88, 89, 90, 91, 92, 93, 94, 31, 95, 96, 97, 98, 99, 100, 101, 102, 103, 104, 105, 106, 107, 108, 109, 110, 111, 42, 43, 112, 45, 44, 113, 114, 115, 116, 117, 118, 119, 120, 121, 122, 123, 124, 125, 126, 127, 128, 129, 130, 131, 132, 133, 134, 135, 136, 137, 138, 139, 140, 141, 142, 143, 144, 145, 146, 147, 148, 149, 150, 151, 152, 153, 154, 155, 156, 157, 158, 300, 301, 302, 362, 363, 364, 365, 366, 367, 368, 369, 370, 371, 372, 393, 394, 395, 396, 397, 398, 399, 400, 379, 380, 381, 373, 374, 375, 376, 377, 378, 382, 383, 384, 385, 386, 387, 388, 389, 390, 391, 392] rfl (by decide +kernel)) (goodIn_sub (fun _ h => List.mem_cons_of_mem _ (List.mem_append_right _ h)) (by decide +kernel))) (goodIn_sub (fun _ h => List.mem_cons_of_mem _ (List.mem_append_left _ (List.mem_append_right _ h))) (by decide +kernel))
set_option maxRecDepth 20000 in
theorem gL_act_X8_accept : GoodIn wsL_act (wsV RL 111 RX8 yX8_accept wsX8_accept) := goodIn_app (goodIn_r _ [260, 261, 262, 4] rfl (by decide +kernel)) ggL_act_X8_accept
set_option maxRecDepth 20000 in
theorem ggL_act_X8_turnRule : GoodIn wsL_act wsX8_turnRule := goodIn_r _ [306, 58, 6, 75, 76, 77, 78, 79, 80, 81, 82, 83, 84, 85, 86, 87, 88, 89, 90, 91, 92, 93, 94, 31, 95, 96, 97, 98, 99, 100, 101, 102, 103, 104, 105, 106, 107, 108, 109, 110, 111, 42, 43, 112, 45, 44, 113, 114, 115, 116, 117, 118, 119, 120, 121, 122, 123, 124, 125, 126, 127, 128, 129, 130, 131, 132, 133, 134, 135, 136, 137, 138, 139, 140, 141, 142, 143, 144, 145, 146, 147, 148, 149, 150, 151, 152, 153, 154, 155, 156, 157, 158, 362, 363, 364, 365, 366, 367, 368, 369, 370, 371, 372, 382, 383, 384, 385, 386, 387, 388, 379, 380, 381, 373, 374, 375, 376, 377, 378, 389, 390, 391, 392, 393, 394] rfl (by decide +kernel)
set_option maxRecDepth 20000 in
theorem gL_act_X8_turnRule : GoodIn wsL_act (wsV RL 114 RX8 yX8_turnRule wsX8_turnRule) := goodIn_app (goodIn_r _ [303, 304, 305, 4] rfl (by decide +kernel)) ggL_act_X8_turnRule
set_option maxRecDepth 20000 in
theorem ggL_act_X8_changeLeast : GoodIn wsL_act wsX8_changeLeast := goodIn_ca (goodIn_ca (goodIn_r _ [310, 63, 64, 58, 6, 224, 225, 226, 4, 227, 20, 21, 75, 76, 77, 78, 79, 80, 81, 82, 83, 84, 85, 86, 87, 88, 89, 90, 91, 92, 93, 94, 31, 95, 96, 97, 98, 99, 100, 101, 102, 103, 104, 105, 106, 107, 108, 109, 110, 111, 42, 43, 112, 45, 44, 113, 114, 115, 116, 117, 118, 119, 120, 121, 122, 123, 124, 125, 126, 127, 128, 129, 130, 131, 132, 133, 134, 135, 136, 137, 138, 139, 140, 141, 142, 143, 144, 145, 146, 147, 148, 149, 150, 151, 152, 153, 154, 155, 156, 157, 158, 362, 363, 364, 365, 366, 367, 368, 369, 370, 371, 372, 389, 390, 391, 392, 379, 380, 381, 373, 374, 375, 376, 377, 378, 382, 383, 384, 385, 386, 387, 388, 393, 394] rfl (by decide +kernel)) (goodIn_sub (fun _ h => List.mem_cons_of_mem _ (List.mem_append_right _ h)) (by decide +kernel))) (goodIn_sub (fun _ h => List.mem_cons_of_mem _ (List.mem_append_left _ (List.mem_append_left _ (List.mem_append_right _ h)))) (by decide +kernel))
set_option maxRecDepth 20000 in
theorem gL_act_X8_changeLeast : GoodIn wsL_act (wsV RL 117 RX8 yX8_changeLeast wsX8_changeLeast) := goodIn_app (goodIn_r _ [307, 308, 309, 4] rfl (by decide +kernel)) ggL_act_X8_changeLeast
set_option maxRecDepth 20000 in
theorem ggL_act_X8_serveAll : GoodIn wsL_act wsX8_serveAll := goodIn_ca (goodIn_r _ [314, 58, 6, 65, 66, 67, 4, 68, 56, 57, 75, 76, 77, 78, 79, 80, 81, 82, 83, 84, 85, 86, 87, 88, 89, 90, 91, 92, 93, 94, 31, 95, 96, 97, 98, 99, 100, 101, 102, 103, 104, 105, 106, 107, 108, 109, 110, 111, 42, 43, 112, 45, 44, 113, 114, 115, 116, 117, 118, 119, 120, 121, 122, 123, 124, 125, 126, 127, 128, 129, 130, 131, 132, 133, 134, 135, 136, 137, 138, 139, 140, 141, 142, 143, 144, 145, 146, 147, 148, 149, 150, 151, 152, 153, 154, 155, 156, 157, 158, 315, 316, 317, 318, 319, 320, 321, 322, 323, 324, 325, 326, 327, 328, 329, 330, 331, 332, 169, 170, 171, 333, 334, 335, 336, 337, 338, 339, 340, 341, 342, 343, 344, 345, 346, 347, 348, 349, 350, 351, 352, 210, 211, 212, 213, 214, 215, 216, 217, 218, 36, 219, 198, 199, 200, 201, 202, 203, 204, 205, 353, 354, 355, 356, 357, 236, 237, 238, 358, 191, 192, 193, 69, 70, 71, 38, 39, 40, 41, 46, 47, 48, 72, 73, 74, 49, 50, 51, 194, 195, 196, 197, 359, 360, 361, 362, 363, 364, 365, 366, 367, 368, 369, 370, 371, 372, 373, 374, 375, 376, 377, 378, 379, 380, 381, 382, 383, 384, 385, 386, 387, 388, 389, 390, 391, 392, 393, 394] rfl (by decide +kernel)) (goodIn_sub (fun _ h => List.mem_cons_of_mem _ (List.mem_append_left _ (List.mem_append_right _ h))) (by decide +kernel))
set_option maxRecDepth 20000 in
theorem gL_act_X8_serveAll : GoodIn wsL_act (wsV RL 120 RX8 yX8_serveAll wsX8_serveAll) := goodIn_app (goodIn_r _ [311, 312, 313, 4] rfl (by decide +kernel)) ggL_act_X8_serveAll
theorem dL_act_0 : decode cL_act 0 = .ok (.aload_n 0, 1) := by decide +kernel
theorem dL_act_1 : decode cL_act 1 = .ok (.invokevirtual 12, 3) := by decide +kernel
theorem dL_act_4 : decode cL_act 4 = .ok (.istore_n 3, 1) := by decide +kernel
theorem dL_act_5 : decode cL_act 5 = .ok (.iload_n 3, 1) := by decide +kernel
theorem dL_act_6 : decode cL_act 6 = .ok (.ifCond .ne 7, 3) := by decide +kernel
theorem dL_act_9 : decode cL_act 9 = .ok (.iconst (-1), 1) := by decide +kernel
theorem dL_act_10 : decode cL_act 10 = .ok (.goto 10, 3) := by decide +kernel
theorem dL_act_13 : decode cL_act 13 = .ok (.iload_n 1, 1) := by decide +kernel
theorem dL_act_14 : decode cL_act 14 = .ok (.iconst 4, 1) := by decide +kernel
theorem dL_act_15 : decode cL_act 15 = .ok (.ishr, 1) := by decide +kernel
theorem dL_act_16 : decode cL_act 16 = .ok (.iload_n 3, 1) := by decide +kernel
theorem dL_act_17 : decode cL_act 17 = .ok (.invokestatic 75, 3) := by decide +kernel
theorem dL_act_20 : decode cL_act 20 = .ok (.istore 4, 2) := by decide +kernel
theorem dL_act_22 : decode cL_act 22 = .ok (.iconst (-1), 1) := by decide +kernel
theorem dL_act_23 : decode cL_act 23 = .ok (.istore 5, 2) := by decide +kernel
theorem dL_act_25 : decode cL_act 25 = .ok (.iconst 0, 1) := by decide +kernel
theorem dL_act_26 : decode cL_act 26 = .ok (.istore 6, 2) := by decide +kernel
theorem dL_act_28 : decode cL_act 28 = .ok (.iload 6, 2) := by decide +kernel
theorem dL_act_30 : decode cL_act 30 = .ok (.iload_n 3, 1) := by decide +kernel
theorem dL_act_31 : decode cL_act 31 = .ok (.if_icmp .ge 27, 3) := by decide +kernel
theorem dL_act_34 : decode cL_act 34 = .ok (.aload_n 0, 1) := by decide +kernel
theorem dL_act_35 : decode cL_act 35 = .ok (.iload 6, 2) := by decide +kernel
theorem dL_act_37 : decode cL_act 37 = .ok (.invokevirtual 43, 3) := by decide +kernel
theorem dL_act_40 : decode cL_act 40 = .ok (.ifCond .eq 8, 3) := by decide +kernel
theorem dL_act_43 : decode cL_act 43 = .ok (.iload 6, 2) := by decide +kernel
theorem dL_act_45 : decode cL_act 45 = .ok (.goto 5, 3) := by decide +kernel
theorem dL_act_48 : decode cL_act 48 = .ok (.iload 5, 2) := by decide +kernel
theorem dL_act_50 : decode cL_act 50 = .ok (.istore 5, 2) := by decide +kernel
theorem dL_act_52 : decode cL_act 52 = .ok (.iinc 6 1, 3) := by decide +kernel
theorem dL_act_55 : decode cL_act 55 = .ok (.goto (-27), 3) := by decide +kernel
theorem dL_act_58 : decode cL_act 58 = .ok (.iload_n 2, 1) := by decide +kernel
theorem dL_act_59 : decode cL_act 59 = .ok (.bipush 10, 2) := by decide +kernel
theorem dL_act_61 : decode cL_act 61 = .ok (.invokestatic 75, 3) := by decide +kernel
theorem dL_act_64 : decode cL_act 64 = .ok (.istore 6, 2) := by decide +kernel
theorem dL_act_66 : decode cL_act 66 = .ok (.iload_n 1, 1) := by decide +kernel
theorem dL_act_67 : decode cL_act 67 = .ok (.bipush 15, 2) := by decide +kernel
theorem dL_act_69 : decode cL_act 69 = .ok (.iand, 1) := by decide +kernel
theorem dL_act_70 : decode cL_act 70 = .ok (.tableswitch 341 0 13 #[70, 70, 70, 121, 153, 153, 181, 181, 181, 233, 261, 261, 317, 324], 70) := by decide +kernel
theorem dL_act_140 : decode cL_act 140 = .ok (.iconst 1, 1) := by decide +kernel
theorem dL_act_141 : decode cL_act 141 = .ok (.iload_n 2, 1) := by decide +kernel
theorem dL_act_142 : decode cL_act 142 = .ok (.iconst 4, 1) := by decide +kernel
theorem dL_act_143 : decode cL_act 143 = .ok (.invokestatic 75, 3) := by decide +kernel
theorem dL_act_146 : decode cL_act 146 = .ok (.iadd, 1) := by decide +kernel
theorem dL_act_147 : decode cL_act 147 = .ok (.istore 7, 2) := by decide +kernel
theorem dL_act_149 : decode cL_act 149 = .ok (.iload_n 3, 1) := by decide +kernel
theorem dL_act_150 : decode cL_act 150 = .ok (.bipush 9, 2) := by decide +kernel
theorem dL_act_152 : decode cL_act 152 = .ok (.if_icmp .eq 28, 3) := by decide +kernel
theorem dL_act_155 : decode cL_act 155 = .ok (.iload 5, 2) := by decide +kernel
theorem dL_act_157 : decode cL_act 157 = .ok (.ifCond .ge 23, 3) := by decide +kernel
theorem dL_act_160 : decode cL_act 160 = .ok (.aload_n 0, 1) := by decide +kernel
theorem dL_act_161 : decode cL_act 161 = .ok (.iconst 0, 1) := by decide +kernel
theorem dL_act_162 : decode cL_act 162 = .ok (.invokevirtual 81, 3) := by decide +kernel
theorem dL_act_165 : decode cL_act 165 = .ok (.iload 7, 2) := by decide +kernel
theorem dL_act_167 : decode cL_act 167 = .ok (.if_icmp .ge 15, 3) := by decide +kernel
theorem dL_act_170 : decode cL_act 170 = .ok (.aload_n 0, 1) := by decide +kernel
theorem dL_act_171 : decode cL_act 171 = .ok (.iconst 1, 1) := by decide +kernel
theorem dL_act_172 : decode cL_act 172 = .ok (.invokevirtual 81, 3) := by decide +kernel
theorem dL_act_175 : decode cL_act 175 = .ok (.iload 7, 2) := by decide +kernel
theorem dL_act_177 : decode cL_act 177 = .ok (.if_icmp .ge 5, 3) := by decide +kernel
theorem dL_act_180 : decode cL_act 180 = .ok (.iconst 0, 1) := by decide +kernel
theorem dL_act_181 : decode cL_act 181 = .ok (.ireturn, 1) := by decide +kernel
theorem dL_act_182 : decode cL_act 182 = .ok (.aload_n 0, 1) := by decide +kernel
theorem dL_act_183 : decode cL_act 183 = .ok (.iload 7, 2) := by decide +kernel
theorem dL_act_185 : decode cL_act 185 = .ok (.invokevirtual 84, 3) := by decide +kernel
theorem dL_act_188 : decode cL_act 188 = .ok (.pop, 1) := by decide +kernel
theorem dL_act_189 : decode cL_act 189 = .ok (.iconst 1, 1) := by decide +kernel
theorem dL_act_190 : decode cL_act 190 = .ok (.ireturn, 1) := by decide +kernel
theorem dL_act_191 : decode cL_act 191 = .ok (.iload 4, 2) := by decide +kernel
theorem dL_act_193 : decode cL_act 193 = .ok (.ifCond .lt 19, 3) := by decide +kernel
theorem dL_act_196 : decode cL_act 196 = .ok (.iload 4, 2) := by decide +kernel
theorem dL_act_198 : decode cL_act 198 = .ok (.iload 5, 2) := by decide +kernel
theorem dL_act_200 : decode cL_act 200 = .ok (.if_icmp .eq 12, 3) := by decide +kernel
theorem dL_act_203 : decode cL_act 203 = .ok (.aload_n 0, 1) := by decide +kernel
theorem dL_act_204 : decode cL_act 204 = .ok (.iload 4, 2) := by decide +kernel
theorem dL_act_206 : decode cL_act 206 = .ok (.invokevirtual 47, 3) := by decide +kernel
theorem dL_act_209 : decode cL_act 209 = .ok (.ifCond .le 5, 3) := by decide +kernel
theorem dL_act_212 : decode cL_act 212 = .ok (.iconst 0, 1) := by decide +kernel
theorem dL_act_213 : decode cL_act 213 = .ok (.ireturn, 1) := by decide +kernel
theorem dL_act_214 : decode cL_act 214 = .ok (.aload_n 0, 1) := by decide +kernel
theorem dL_act_215 : decode cL_act 215 = .ok (.iload 4, 2) := by decide +kernel
theorem dL_act_217 : decode cL_act 217 = .ok (.invokevirtual 87, 3) := by decide +kernel
theorem dL_act_220 : decode cL_act 220 = .ok (.pop, 1) := by decide +kernel
theorem dL_act_221 : decode cL_act 221 = .ok (.iconst 1, 1) := by decide +kernel
theorem dL_act_222 : decode cL_act 222 = .ok (.ireturn, 1) := by decide +kernel
theorem dL_act_223 : decode cL_act 223 = .ok (.iload 5, 2) := by decide +kernel
theorem dL_act_225 : decode cL_act 225 = .ok (.ifCond .lt 10, 3) := by decide +kernel
theorem dL_act_228 : decode cL_act 228 = .ok (.aload_n 0, 1) := by decide +kernel
theorem dL_act_229 : decode cL_act 229 = .ok (.invokevirtual 90, 3) := by decide +kernel
theorem dL_act_232 : decode cL_act 232 = .ok (.pop, 1) := by decide +kernel
theorem dL_act_233 : decode cL_act 233 = .ok (.iconst 1, 1) := by decide +kernel
theorem dL_act_234 : decode cL_act 234 = .ok (.ireturn, 1) := by decide +kernel
theorem dL_act_235 : decode cL_act 235 = .ok (.iload 4, 2) := by decide +kernel
theorem dL_act_237 : decode cL_act 237 = .ok (.ifCond .ge 5, 3) := by decide +kernel
theorem dL_act_240 : decode cL_act 240 = .ok (.iconst 0, 1) := by decide +kernel
theorem dL_act_241 : decode cL_act 241 = .ok (.ireturn, 1) := by decide +kernel
theorem dL_act_242 : decode cL_act 242 = .ok (.aload_n 0, 1) := by decide +kernel
theorem dL_act_243 : decode cL_act 243 = .ok (.iload 4, 2) := by decide +kernel
theorem dL_act_245 : decode cL_act 245 = .ok (.invokevirtual 93, 3) := by decide +kernel
theorem dL_act_248 : decode cL_act 248 = .ok (.pop, 1) := by decide +kernel
theorem dL_act_249 : decode cL_act 249 = .ok (.iconst 1, 1) := by decide +kernel
theorem dL_act_250 : decode cL_act 250 = .ok (.ireturn, 1) := by decide +kernel
theorem dL_act_251 : decode cL_act 251 = .ok (.iconst 1, 1) := by decide +kernel
theorem dL_act_252 : decode cL_act 252 = .ok (.iload_n 2, 1) := by decide +kernel
theorem dL_act_253 : decode cL_act 253 = .ok (.iconst 4, 1) := by decide +kernel
theorem dL_act_254 : decode cL_act 254 = .ok (.ishr, 1) := by decide +kernel
theorem dL_act_255 : decode cL_act 255 = .ok (.bipush 12, 2) := by decide +kernel
theorem dL_act_257 : decode cL_act 257 = .ok (.invokestatic 75, 3) := by decide +kernel
theorem dL_act_260 : decode cL_act 260 = .ok (.iadd, 1) := by decide +kernel
theorem dL_act_261 : decode cL_act 261 = .ok (.istore 8, 2) := by decide +kernel
theorem dL_act_263 : decode cL_act 263 = .ok (.iload 5, 2) := by decide +kernel
theorem dL_act_265 : decode cL_act 265 = .ok (.ifCond .lt 25, 3) := by decide +kernel
theorem dL_act_268 : decode cL_act 268 = .ok (.aload_n 0, 1) := by decide +kernel
theorem dL_act_269 : decode cL_act 269 = .ok (.iload 5, 2) := by decide +kernel
theorem dL_act_271 : decode cL_act 271 = .ok (.invokevirtual 47, 3) := by decide +kernel
theorem dL_act_274 : decode cL_act 274 = .ok (.iload 8, 2) := by decide +kernel
theorem dL_act_276 : decode cL_act 276 = .ok (.aload_n 0, 1) := by decide +kernel
theorem dL_act_277 : decode cL_act 277 = .ok (.iload 6, 2) := by decide +kernel
theorem dL_act_279 : decode cL_act 279 = .ok (.invokevirtual 53, 3) := by decide +kernel
theorem dL_act_282 : decode cL_act 282 = .ok (.imul, 1) := by decide +kernel
theorem dL_act_283 : decode cL_act 283 = .ok (.iadd, 1) := by decide +kernel
theorem dL_act_284 : decode cL_act 284 = .ok (.sipush 150, 3) := by decide +kernel
theorem dL_act_287 : decode cL_act 287 = .ok (.if_icmp .le 5, 3) := by decide +kernel
theorem dL_act_290 : decode cL_act 290 = .ok (.iconst 0, 1) := by decide +kernel
theorem dL_act_291 : decode cL_act 291 = .ok (.ireturn, 1) := by decide +kernel
theorem dL_act_292 : decode cL_act 292 = .ok (.aload_n 0, 1) := by decide +kernel
theorem dL_act_293 : decode cL_act 293 = .ok (.iload 6, 2) := by decide +kernel
theorem dL_act_295 : decode cL_act 295 = .ok (.iload 8, 2) := by decide +kernel
theorem dL_act_297 : decode cL_act 297 = .ok (.invokevirtual 96, 3) := by decide +kernel
theorem dL_act_300 : decode cL_act 300 = .ok (.pop, 1) := by decide +kernel
theorem dL_act_301 : decode cL_act 301 = .ok (.iconst 1, 1) := by decide +kernel
theorem dL_act_302 : decode cL_act 302 = .ok (.ireturn, 1) := by decide +kernel
theorem dL_act_303 : decode cL_act 303 = .ok (.iload 5, 2) := by decide +kernel
theorem dL_act_305 : decode cL_act 305 = .ok (.ifCond .lt 14, 3) := by decide +kernel
theorem dL_act_308 : decode cL_act 308 = .ok (.aload_n 0, 1) := by decide +kernel
theorem dL_act_309 : decode cL_act 309 = .ok (.iload 5, 2) := by decide +kernel
theorem dL_act_311 : decode cL_act 311 = .ok (.iload 6, 2) := by decide +kernel
theorem dL_act_313 : decode cL_act 313 = .ok (.invokevirtual 99, 3) := by decide +kernel
theorem dL_act_316 : decode cL_act 316 = .ok (.ifCond .ne 5, 3) := by decide +kernel
theorem dL_act_319 : decode cL_act 319 = .ok (.iconst 0, 1) := by decide +kernel
theorem dL_act_320 : decode cL_act 320 = .ok (.ireturn, 1) := by decide +kernel
theorem dL_act_321 : decode cL_act 321 = .ok (.aload_n 0, 1) := by decide +kernel
theorem dL_act_322 : decode cL_act 322 = .ok (.iload 6, 2) := by decide +kernel
theorem dL_act_324 : decode cL_act 324 = .ok (.iconst 1, 1) := by decide +kernel
theorem dL_act_325 : decode cL_act 325 = .ok (.invokevirtual 102, 3) := by decide +kernel
theorem dL_act_328 : decode cL_act 328 = .ok (.pop, 1) := by decide +kernel
theorem dL_act_329 : decode cL_act 329 = .ok (.iconst 1, 1) := by decide +kernel
theorem dL_act_330 : decode cL_act 330 = .ok (.ireturn, 1) := by decide +kernel
theorem dL_act_331 : decode cL_act 331 = .ok (.aload_n 0, 1) := by decide +kernel
theorem dL_act_332 : decode cL_act 332 = .ok (.invokevirtual 30, 3) := by decide +kernel
theorem dL_act_335 : decode cL_act 335 = .ok (.bipush 8, 2) := by decide +kernel
theorem dL_act_337 : decode cL_act 337 = .ok (.if_icmp .ne 5, 3) := by decide +kernel
theorem dL_act_340 : decode cL_act 340 = .ok (.iconst 0, 1) := by decide +kernel
theorem dL_act_341 : decode cL_act 341 = .ok (.ireturn, 1) := by decide +kernel
theorem dL_act_342 : decode cL_act 342 = .ok (.aload_n 0, 1) := by decide +kernel
theorem dL_act_343 : decode cL_act 343 = .ok (.invokevirtual 105, 3) := by decide +kernel
theorem dL_act_346 : decode cL_act 346 = .ok (.pop, 1) := by decide +kernel
theorem dL_act_347 : decode cL_act 347 = .ok (.aload_n 0, 1) := by decide +kernel
theorem dL_act_348 : decode cL_act 348 = .ok (.bipush 48, 2) := by decide +kernel
theorem dL_act_350 : decode cL_act 350 = .ok (.iload 6, 2) := by decide +kernel
theorem dL_act_352 : decode cL_act 352 = .ok (.iadd, 1) := by decide +kernel
theorem dL_act_353 : decode cL_act 353 = .ok (.invokevirtual 108, 3) := by decide +kernel
theorem dL_act_356 : decode cL_act 356 = .ok (.pop, 1) := by decide +kernel
theorem dL_act_357 : decode cL_act 357 = .ok (.aload_n 0, 1) := by decide +kernel
theorem dL_act_358 : decode cL_act 358 = .ok (.bipush 42, 2) := by decide +kernel
theorem dL_act_360 : decode cL_act 360 = .ok (.invokevirtual 108, 3) := by decide +kernel
theorem dL_act_363 : decode cL_act 363 = .ok (.pop, 1) := by decide +kernel
theorem dL_act_364 : decode cL_act 364 = .ok (.aload_n 0, 1) := by decide +kernel
theorem dL_act_365 : decode cL_act 365 = .ok (.bipush 49, 2) := by decide +kernel
theorem dL_act_367 : decode cL_act 367 = .ok (.iload_n 2, 1) := by decide +kernel
theorem dL_act_368 : decode cL_act 368 = .ok (.iconst 4, 1) := by decide +kernel
theorem dL_act_369 : decode cL_act 369 = .ok (.ishr, 1) := by decide +kernel
theorem dL_act_370 : decode cL_act 370 = .ok (.bipush 9, 2) := by decide +kernel
theorem dL_act_372 : decode cL_act 372 = .ok (.invokestatic 75, 3) := by decide +kernel
theorem dL_act_375 : decode cL_act 375 = .ok (.iadd, 1) := by decide +kernel
theorem dL_act_376 : decode cL_act 376 = .ok (.invokevirtual 108, 3) := by decide +kernel
theorem dL_act_379 : decode cL_act 379 = .ok (.pop, 1) := by decide +kernel
theorem dL_act_380 : decode cL_act 380 = .ok (.aload_n 0, 1) := by decide +kernel
theorem dL_act_381 : decode cL_act 381 = .ok (.invokevirtual 111, 3) := by decide +kernel
theorem dL_act_384 : decode cL_act 384 = .ok (.pop, 1) := by decide +kernel
theorem dL_act_385 : decode cL_act 385 = .ok (.iconst 1, 1) := by decide +kernel
theorem dL_act_386 : decode cL_act 386 = .ok (.ireturn, 1) := by decide +kernel
theorem dL_act_387 : decode cL_act 387 = .ok (.aload_n 0, 1) := by decide +kernel
theorem dL_act_388 : decode cL_act 388 = .ok (.invokevirtual 114, 3) := by decide +kernel
theorem dL_act_391 : decode cL_act 391 = .ok (.pop, 1) := by decide +kernel
theorem dL_act_392 : decode cL_act 392 = .ok (.iconst 1, 1) := by decide +kernel
theorem dL_act_393 : decode cL_act 393 = .ok (.ireturn, 1) := by decide +kernel
theorem dL_act_394 : decode cL_act 394 = .ok (.aload_n 0, 1) := by decide +kernel
theorem dL_act_395 : decode cL_act 395 = .ok (.iload 6, 2) := by decide +kernel
theorem dL_act_397 : decode cL_act 397 = .ok (.iload_n 2, 1) := by decide +kernel
theorem dL_act_398 : decode cL_act 398 = .ok (.iconst 4, 1) := by decide +kernel
theorem dL_act_399 : decode cL_act 399 = .ok (.ishr, 1) := by decide +kernel
theorem dL_act_400 : decode cL_act 400 = .ok (.bipush 100, 2) := by decide +kernel
theorem dL_act_402 : decode cL_act 402 = .ok (.invokestatic 75, 3) := by decide +kernel
theorem dL_act_405 : decode cL_act 405 = .ok (.invokevirtual 117, 3) := by decide +kernel
theorem dL_act_408 : decode cL_act 408 = .ok (.pop, 1) := by decide +kernel
theorem dL_act_409 : decode cL_act 409 = .ok (.iconst 1, 1) := by decide +kernel
theorem dL_act_410 : decode cL_act 410 = .ok (.ireturn, 1) := by decide +kernel
theorem dL_act_411 : decode cL_act 411 = .ok (.iload 5, 2) := by decide +kernel
theorem dL_act_413 : decode cL_act 413 = .ok (.ifCond .lt 5, 3) := by decide +kernel
theorem dL_act_416 : decode cL_act 416 = .ok (.iconst 0, 1) := by decide +kernel
theorem dL_act_417 : decode cL_act 417 = .ok (.ireturn, 1) := by decide +kernel
theorem dL_act_418 : decode cL_act 418 = .ok (.aload_n 0, 1) := by decide +kernel
theorem dL_act_419 : decode cL_act 419 = .ok (.invokevirtual 120, 3) := by decide +kernel
theorem dL_act_422 : decode cL_act 422 = .ok (.pop, 1) := by decide +kernel
theorem dL_act_423 : decode cL_act 423 = .ok (.iconst 1, 1) := by decide +kernel
theorem dL_act_424 : decode cL_act 424 = .ok (.ireturn, 1) := by decide +kernel
set_option maxRecDepth 20000 in
theorem ggL_holds_X8_shelves : GoodIn wsL_holds wsX8_shelves := goodIn_r _ [5, 6, 233, 234, 235, 236, 237, 238, 239, 240, 241, 242, 243, 244, 245, 246, 247, 248, 249] rfl (by decide +kernel)
set_option maxRecDepth 20000 in
theorem gL_holds_X8_shelves : GoodIn wsL_holds (wsV RL 12 RX8 yX8_shelves wsX8_shelves) := goodIn_app (goodIn_r _ [1, 2, 3, 4] rfl (by decide +kernel)) ggL_holds_X8_shelves
set_option maxRecDepth 20000 in
theorem ggL_holds_X8_isAtWindow : GoodIn wsL_holds wsX8_isAtWindow := goodIn_ca (goodIn_r _ [10, 6, 11, 12, 13, 4, 14, 15, 16, 233, 234, 235, 236, 237, 238, 239, 240, 241, 242, 243, 244, 245, 246, 247, 248, 249] rfl (by decide +kernel)) (goodIn_sub (fun _ h => List.mem_cons_of_mem _ (List.mem_append_left _ (List.mem_append_right _ h))) (by decide +kernel))
set_option maxRecDepth 20000 in
theorem gL_holds_X8_isAtWindow : GoodIn wsL_holds (wsV RL 43 RX8 yX8_isAtWindow wsX8_isAtWindow) := goodIn_app (goodIn_r _ [7, 8, 9, 4] rfl (by decide +kernel)) ggL_holds_X8_isAtWindow
set_option maxRecDepth 20000 in
theorem ggL_holds_X8_heightOf : GoodIn wsL_holds wsX8_heightOf := goodIn_ca (goodIn_r _ [20, 6, 11, 12, 13, 4, 14, 15, 16, 233, 234, 235, 236, 237, 238, 239, 240, 241, 242, 243, 244, 245, 246, 247, 248, 249] rfl (by decide +kernel)) (goodIn_sub (fun _ h => List.mem_cons_of_mem _ (List.mem_append_left _ (List.mem_append_right _ h))) (by decide +kernel))
set_option maxRecDepth 20000 in
theorem gL_holds_X8_heightOf : GoodIn wsL_holds (wsV RL 123 RX8 yX8_heightOf wsX8_heightOf) := goodIn_app (goodIn_r _ [17, 18, 19, 4] rfl (by decide +kernel)) ggL_holds_X8_heightOf
set_option maxRecDepth 20000 in
theorem ggL_holds_X8_sideOf : GoodIn wsL_holds wsX8_sideOf := goodIn_ca (goodIn_r _ [24, 6, 11, 12, 13, 4, 14, 15, 16, 233, 234, 235, 236, 237, 238, 239, 240, 241, 242, 243, 244, 245, 246, 247, 248, 249] rfl (by decide +kernel)) (goodIn_sub (fun _ h => List.mem_cons_of_mem _ (List.mem_append_left _ (List.mem_append_right _ h))) (by decide +kernel))
set_option maxRecDepth 20000 in
theorem gL_holds_X8_sideOf : GoodIn wsL_holds (wsV RL 33 RX8 yX8_sideOf wsX8_sideOf) := goodIn_app (goodIn_r _ [21, 22, 23, 4] rfl (by decide +kernel)) ggL_holds_X8_sideOf
set_option maxRecDepth 20000 in
theorem ggL_holds_X8_slotOf : GoodIn wsL_holds wsX8_slotOf := goodIn_ca (goodIn_r _ [28, 6, 11, 12, 13, 4, 14, 15, 16, 233, 234, 235, 236, 237, 238, 239, 240, 241, 242, 243, 244, 245, 246, 247, 248, 249] rfl (by decide +kernel)) (goodIn_sub (fun _ h => List.mem_cons_of_mem _ (List.mem_append_left _ (List.mem_append_right _ h))) (by decide +kernel))
set_option maxRecDepth 20000 in
theorem gL_holds_X8_slotOf : GoodIn wsL_holds (wsV RL 37 RX8 yX8_slotOf wsX8_slotOf) := goodIn_app (goodIn_r _ [25, 26, 27, 4] rfl (by decide +kernel)) ggL_holds_X8_slotOf
set_option maxRecDepth 20000 in
theorem ggL_holds_X8_isFree : GoodIn wsL_holds wsX8_isFree := goodIn_ca (goodIn_r _ [32, 6, 33, 34, 35, 4, 36, 15, 16, 37, 38, 39, 40, 41, 42, 43, 44, 45, 46, 47, 48, 233, 234, 235, 236, 237, 238, 239, 240, 241, 242, 243, 244, 245, 246, 247, 248, 249] rfl (by decide +kernel)) (goodIn_sub (fun _ h => List.mem_cons_of_mem _ (List.mem_append_left _ (List.mem_append_right _ h))) (by decide +kernel))
set_option maxRecDepth 20000 in
theorem gL_holds_X8_isFree : GoodIn wsL_holds (wsV RL 126 RX8 yX8_isFree wsX8_isFree) := goodIn_app (goodIn_r _ [29, 30, 31, 4] rfl (by decide +kernel)) ggL_holds_X8_isFree
set_option maxRecDepth 20000 in
theorem ggL_holds_X8_shelfAt : GoodIn wsL_holds wsX8_shelfAt := goodIn_ca (goodIn_ca (goodIn_r _ [52, 53, 54, 6, 33, 34, 35, 4, 36, 15, 16, 37, 38, 39, 40, 41, 42, 43, 44, 45, 46, 47, 48, 233, 234, 235, 236, 237, 238, 239, 240, 241, 242, 243, 244, 245, 246, 247, 248, 249] rfl (by decide +kernel)) (goodIn_sub (fun _ h => List.mem_cons_of_mem _ (List.mem_append_right _ h)) (by decide +kernel))) (goodIn_sub (fun _ h => List.mem_cons_of_mem _ (List.mem_append_left _ (List.mem_append_right _ h))) (by decide +kernel))
set_option maxRecDepth 20000 in
theorem gL_holds_X8_shelfAt : GoodIn wsL_holds (wsV RL 130 RX8 yX8_shelfAt wsX8_shelfAt) := goodIn_app (goodIn_r _ [49, 50, 51, 4] rfl (by decide +kernel)) ggL_holds_X8_shelfAt
set_option maxRecDepth 20000 in
theorem ggL_holds_X8_weightOf : GoodIn wsL_holds wsX8_weightOf := goodIn_ca (goodIn_r _ [58, 6, 11, 12, 13, 4, 14, 15, 16, 59, 60, 61, 62, 63, 64, 65, 42, 66, 67, 68, 233, 234, 235, 236, 237, 238, 239, 240, 241, 242, 243, 244, 245, 246, 247, 248, 249, 250, 251, 252, 253] rfl (by decide +kernel)) (goodIn_sub (fun _ h => List.mem_cons_of_mem _ (List.mem_append_left _ (List.mem_append_right _ h))) (by decide +kernel))
set_option maxRecDepth 20000 in
theorem gL_holds_X8_weightOf : GoodIn wsL_holds (wsV RL 47 RX8 yX8_weightOf wsX8_weightOf) := goodIn_app (goodIn_r _ [55, 56, 57, 4] rfl (by decide +kernel)) ggL_holds_X8_weightOf
set_option maxRecDepth 20000 in
theorem ggL_holds_X8_heaviest : GoodIn wsL_holds wsX8_heaviest := goodIn_ca (goodIn_r _ [72, 6, 73, 74, 75, 4, 76, 53, 54, 77, 60, 78, 79, 63, 80, 59, 61, 62, 64, 65, 42, 66, 67, 68, 233, 234, 235, 236, 237, 238, 239, 240, 241, 242, 243, 244, 245, 246, 247, 248, 249, 250, 251, 252, 253] rfl (by decide +kernel)) (goodIn_sub (fun _ h => List.mem_cons_of_mem _ (List.mem_append_right _ h)) (by decide +kernel))
set_option maxRecDepth 20000 in
theorem gL_holds_X8_heaviest : GoodIn wsL_holds (wsV RL 133 RX8 yX8_heaviest wsX8_heaviest) := goodIn_app (goodIn_r _ [69, 70, 71, 4] rfl (by decide +kernel)) ggL_holds_X8_heaviest
set_option maxRecDepth 20000 in
theorem ggL_holds_X8_mostFetched : GoodIn wsL_holds wsX8_mostFetched := goodIn_ca (goodIn_r _ [84, 6, 73, 74, 75, 4, 76, 53, 54, 85, 42, 86, 87, 45, 88, 233, 234, 235, 236, 237, 238, 239, 240, 241, 242, 243, 244, 245, 246, 247, 248, 249] rfl (by decide +kernel)) (goodIn_sub (fun _ h => List.mem_cons_of_mem _ (List.mem_append_right _ h)) (by decide +kernel))
set_option maxRecDepth 20000 in
theorem gL_holds_X8_mostFetched : GoodIn wsL_holds (wsV RL 136 RX8 yX8_mostFetched wsX8_mostFetched) := goodIn_app (goodIn_r _ [81, 82, 83, 4] rfl (by decide +kernel)) ggL_holds_X8_mostFetched
set_option maxRecDepth 20000 in
theorem ggL_holds_X8_fetchesOf : GoodIn wsL_holds wsX8_fetchesOf := goodIn_ca (goodIn_r _ [92, 6, 11, 12, 13, 4, 14, 15, 16, 233, 234, 235, 236, 237, 238, 239, 240, 241, 242, 243, 244, 245, 246, 247, 248, 249] rfl (by decide +kernel)) (goodIn_sub (fun _ h => List.mem_cons_of_mem _ (List.mem_append_left _ (List.mem_append_right _ h))) (by decide +kernel))
set_option maxRecDepth 20000 in
theorem gL_holds_X8_fetchesOf : GoodIn wsL_holds (wsV RL 40 RX8 yX8_fetchesOf wsX8_fetchesOf) := goodIn_app (goodIn_r _ [89, 90, 91, 4] rfl (by decide +kernel)) ggL_holds_X8_fetchesOf
set_option maxRecDepth 20000 in
theorem ggL_holds_X8_stockByShelves : GoodIn wsL_holds wsX8_stockByShelves := goodIn_ca (goodIn_r _ [96, 6, 97, 98, 99, 4, 100, 15, 16, 101, 42, 102, 103, 45, 104, 65, 66, 67, 68, 233, 234, 235, 236, 237, 238, 239, 240, 241, 242, 243, 244, 245, 246, 247, 248, 249] rfl (by decide +kernel)) (goodIn_sub (fun _ h => List.mem_cons_of_mem _ (List.mem_append_left _ (List.mem_append_right _ h))) (by decide +kernel))
set_option maxRecDepth 20000 in
theorem gL_holds_X8_stockByShelves : GoodIn wsL_holds (wsV RL 139 RX8 yX8_stockByShelves wsX8_stockByShelves) := goodIn_app (goodIn_r _ [93, 94, 95, 4] rfl (by decide +kernel)) ggL_holds_X8_stockByShelves
set_option maxRecDepth 20000 in
theorem ggL_holds_X8_stockByAccount : GoodIn wsL_holds wsX8_stockByAccount := goodIn_ca (goodIn_r _ [108, 6, 97, 98, 99, 4, 100, 15, 16, 233, 234, 235, 236, 237, 238, 239, 240, 241, 242, 243, 250, 251, 252, 253] rfl (by decide +kernel)) (goodIn_sub (fun _ h => List.mem_cons_of_mem _ (List.mem_append_left _ (List.mem_append_right _ h))) (by decide +kernel))
set_option maxRecDepth 20000 in
theorem gL_holds_X8_stockByAccount : GoodIn wsL_holds (wsV RL 50 RX8 yX8_stockByAccount wsX8_stockByAccount) := goodIn_app (goodIn_r _ [105, 106, 107, 4] rfl (by decide +kernel)) ggL_holds_X8_stockByAccount
set_option maxRecDepth 20000 in
theorem ggL_holds_X8_missingOf : GoodIn wsL_holds wsX8_missingOf := goodIn_ca (goodIn_r _ [112, 6, 97, 98, 99, 4, 100, 15, 16, 113, 60, 114, 115, 64, 63, 116, 117, 118, 119, 101, 42, 102, 103, 45, 104, 65, 66, 67, 68, 233, 234, 235, 236, 237, 238, 239, 240, 241, 242, 243, 250, 251, 252, 253, 244, 245, 246, 247, 248, 249] rfl (by decide +kernel)) (goodIn_sub (fun _ h => List.mem_cons_of_mem _ (List.mem_append_left _ (List.mem_append_right _ h))) (by decide +kernel))
set_option maxRecDepth 20000 in
theorem gL_holds_X8_missingOf : GoodIn wsL_holds (wsV RL 142 RX8 yX8_missingOf wsX8_missingOf) := goodIn_app (goodIn_r _ [109, 110, 111, 4] rfl (by decide +kernel)) ggL_holds_X8_missingOf
set_option maxRecDepth 20000 in
theorem ggL_holds_X8_shortKinds : GoodIn wsL_holds wsX8_shortKinds := goodIn_r _ [123, 6, 113, 60, 114, 115, 64, 63, 116, 117, 118, 119, 101, 42, 102, 103, 45, 104, 65, 66, 67, 68, 233, 234, 235, 236, 237, 238, 239, 240, 241, 242, 243, 250, 251, 252, 253, 244, 245, 246, 247, 248, 249] rfl (by decide +kernel)
set_option maxRecDepth 20000 in
theorem gL_holds_X8_shortKinds : GoodIn wsL_holds (wsV RL 145 RX8 yX8_shortKinds wsX8_shortKinds) := goodIn_app (goodIn_r _ [120, 121, 122, 4] rfl (by decide +kernel)) ggL_holds_X8_shortKinds
set_option maxRecDepth 20000 in
theorem ggL_holds_X8_orders : GoodIn wsL_holds wsX8_orders := goodIn_r _ [127, 6, 233, 234, 235, 236, 237, 238, 239, 240, 241, 242, 243, 254, 255] rfl (by decide +kernel)
set_option maxRecDepth 20000 in
theorem gL_holds_X8_orders : GoodIn wsL_holds (wsV RL 30 RX8 yX8_orders wsX8_orders) := goodIn_app (goodIn_r _ [124, 125, 126, 4] rfl (by decide +kernel)) ggL_holds_X8_orders
set_option maxRecDepth 20000 in
theorem ggL_holds_X8_wanted : GoodIn wsL_holds wsX8_wanted := goodIn_ca (goodIn_r _ [131, 6, 132, 133, 134, 4, 135, 15, 16, 97, 98, 99, 100, 136, 137, 138, 139, 140, 233, 234, 235, 236, 237, 238, 239, 240, 241, 242, 243, 254, 255] rfl (by decide +kernel)) (goodIn_sub (fun _ h => List.mem_cons_of_mem _ (List.mem_append_left _ (List.mem_append_right _ h))) (by decide +kernel))
set_option maxRecDepth 20000 in
theorem gL_holds_X8_wanted : GoodIn wsL_holds (wsV RL 148 RX8 yX8_wanted wsX8_wanted) := goodIn_app (goodIn_r _ [128, 129, 130, 4] rfl (by decide +kernel)) ggL_holds_X8_wanted
set_option maxRecDepth 20000 in
theorem ggL_holds_X8_canServe : GoodIn wsL_holds wsX8_canServe := goodIn_ca (goodIn_r _ [144, 6, 132, 133, 134, 4, 135, 15, 16, 145, 60, 146, 147, 63, 148, 149, 150, 151, 152, 136, 137, 138, 139, 140, 65, 42, 66, 67, 68, 233, 234, 235, 236, 237, 238, 239, 240, 241, 242, 243, 254, 255, 244, 245, 246, 247, 248, 249] rfl (by decide +kernel)) (goodIn_sub (fun _ h => List.mem_cons_of_mem _ (List.mem_append_left _ (List.mem_append_right _ h))) (by decide +kernel))
set_option maxRecDepth 20000 in
theorem gL_holds_X8_canServe : GoodIn wsL_holds (wsV RL 151 RX8 yX8_canServe wsX8_canServe) := goodIn_app (goodIn_r _ [141, 142, 143, 4] rfl (by decide +kernel)) ggL_holds_X8_canServe
set_option maxRecDepth 20000 in
theorem ggL_holds_X8_fewestByTrying : GoodIn wsL_holds wsX8_fewestByTrying := goodIn_ca (goodIn_ca (goodIn_r _ [156, 6, 132, 133, 134, 4, 135, 15, 16, 157, 158, 159, 160, 53, 54, 145, 60, 146, 147, 63, 148, 149, 150, 151, 152, 136, 137, 138, 139, 140, 65, 42, 66, 67, 68, 161, 162, 163, 164, 165, 166, 167, 168, 169, 170, 171, 172, 173, 174, 175, 233, 234, 235, 236, 237, 238, 239, 240, 241, 242, 243, 254, 255, 244, 245, 246, 247, 248, 249] rfl (by decide +kernel)) (goodIn_sub (fun _ h => List.mem_cons_of_mem _ (List.mem_append_left _ (List.mem_append_right _ h))) (by decide +kernel))) (goodIn_sub (fun _ h => List.mem_cons_of_mem _ (List.mem_append_right _ h)) (by decide +kernel))
set_option maxRecDepth 20000 in
theorem gL_holds_X8_fewestByTrying : GoodIn wsL_holds (wsV RL 154 RX8 yX8_fewestByTrying wsX8_fewestByTrying) := goodIn_app (goodIn_r _ [153, 154, 155, 4] rfl (by decide +kernel)) ggL_holds_X8_fewestByTrying
set_option maxRecDepth 20000 in
theorem ggL_holds_X8_fewestByGoing : GoodIn wsL_holds wsX8_fewestByGoing := goodIn_ca (goodIn_ca (goodIn_r _ [179, 132, 133, 134, 4, 135, 15, 16, 6, 157, 158, 159, 160, 53, 54, 145, 60, 146, 147, 63, 148, 149, 150, 151, 152, 136, 137, 138, 139, 140, 65, 42, 66, 67, 68, 180, 181, 182, 183, 184, 185, 186, 187, 188, 189, 190, 191, 192, 193, 104, 194, 195, 196, 233, 234, 235, 236, 237, 238, 239, 240, 241, 242, 243, 254, 255, 244, 245, 246, 247, 248, 249] rfl (by decide +kernel)) (goodIn_sub (fun _ h => List.mem_cons_of_mem _ (List.mem_append_left _ (List.mem_append_right _ h))) (by decide +kernel))) (goodIn_sub (fun _ h => List.mem_cons_of_mem _ (List.mem_append_right _ h)) (by decide +kernel))
set_option maxRecDepth 20000 in
theorem gL_holds_X8_fewestByGoing : GoodIn wsL_holds (wsV RL 157 RX8 yX8_fewestByGoing wsX8_fewestByGoing) := goodIn_app (goodIn_r _ [176, 177, 178, 4] rfl (by decide +kernel)) ggL_holds_X8_fewestByGoing
set_option maxRecDepth 20000 in
theorem ggL_holds_X8_freeBySlots : GoodIn wsL_holds wsX8_freeBySlots := goodIn_r _ [200, 6, 201, 42, 202, 203, 204, 205, 206, 207, 45, 46, 47, 48, 208, 209, 210, 211, 212, 213, 233, 234, 235, 236, 237, 238, 239, 240, 241, 242, 243, 244, 245, 246, 247, 248, 249] rfl (by decide +kernel)
set_option maxRecDepth 20000 in
theorem gL_holds_X8_freeBySlots : GoodIn wsL_holds (wsV RL 160 RX8 yX8_freeBySlots wsX8_freeBySlots) := goodIn_app (goodIn_r _ [197, 198, 199, 4] rfl (by decide +kernel)) ggL_holds_X8_freeBySlots
set_option maxRecDepth 20000 in
theorem ggL_holds_X8_freeByHeights : GoodIn wsL_holds wsX8_freeByHeights := goodIn_r _ [217, 6, 218, 42, 219, 220, 45, 46, 48, 233, 234, 235, 236, 237, 238, 239, 240, 241, 242, 243, 244, 245, 246, 247, 248, 249] rfl (by decide +kernel)
set_option maxRecDepth 20000 in
theorem gL_holds_X8_freeByHeights : GoodIn wsL_holds (wsV RL 163 RX8 yX8_freeByHeights wsX8_freeByHeights) := goodIn_app (goodIn_r _ [214, 215, 216, 4] rfl (by decide +kernel)) ggL_holds_X8_freeByHeights
set_option maxRecDepth 20000 in
theorem ggL_holds_X8_lift : GoodIn wsL_holds wsX8_lift := goodIn_r _ [224, 6, 233, 234, 235, 236, 237, 238, 239, 240, 241, 242, 243, 256, 257, 258, 259, 260, 261, 262] rfl (by decide +kernel)
set_option maxRecDepth 20000 in
theorem gL_holds_X8_lift : GoodIn wsL_holds (wsV RL 18 RX8 yX8_lift wsX8_lift) := goodIn_app (goodIn_r _ [221, 222, 223, 4] rfl (by decide +kernel)) ggL_holds_X8_lift
set_option maxRecDepth 20000 in
theorem ggL_holds_X8_trips : GoodIn wsL_holds wsX8_trips := goodIn_r _ [228, 6, 233, 234, 235, 236, 237, 238, 239, 240, 241, 242, 243, 256, 257, 258, 259, 260, 261, 262] rfl (by decide +kernel)
set_option maxRecDepth 20000 in
theorem gL_holds_X8_trips : GoodIn wsL_holds (wsV RL 62 RX8 yX8_trips wsX8_trips) := goodIn_app (goodIn_r _ [225, 226, 227, 4] rfl (by decide +kernel)) ggL_holds_X8_trips
set_option maxRecDepth 20000 in
theorem ggL_holds_X8_fetches : GoodIn wsL_holds wsX8_fetches := goodIn_r _ [232, 6, 233, 234, 235, 236, 237, 238, 239, 240, 241, 242, 243, 256, 257, 258, 259, 260, 261, 262] rfl (by decide +kernel)
set_option maxRecDepth 20000 in
theorem gL_holds_X8_fetches : GoodIn wsL_holds (wsV RL 24 RX8 yX8_fetches wsX8_fetches) := goodIn_app (goodIn_r _ [229, 230, 231, 4] rfl (by decide +kernel)) ggL_holds_X8_fetches
theorem dL_holds_0 : decode cL_holds 0 = .ok (.iconst 0, 1) := by decide +kernel
theorem dL_holds_1 : decode cL_holds 1 = .ok (.istore_n 1, 1) := by decide +kernel
theorem dL_holds_2 : decode cL_holds 2 = .ok (.iconst 0, 1) := by decide +kernel
theorem dL_holds_3 : decode cL_holds 3 = .ok (.istore_n 2, 1) := by decide +kernel
theorem dL_holds_4 : decode cL_holds 4 = .ok (.iconst 0, 1) := by decide +kernel
theorem dL_holds_5 : decode cL_holds 5 = .ok (.istore_n 3, 1) := by decide +kernel
theorem dL_holds_6 : decode cL_holds 6 = .ok (.iload_n 3, 1) := by decide +kernel
theorem dL_holds_7 : decode cL_holds 7 = .ok (.aload_n 0, 1) := by decide +kernel
theorem dL_holds_8 : decode cL_holds 8 = .ok (.invokevirtual 12, 3) := by decide +kernel
theorem dL_holds_11 : decode cL_holds 11 = .ok (.if_icmp .ge 166, 3) := by decide +kernel
theorem dL_holds_14 : decode cL_holds 14 = .ok (.aload_n 0, 1) := by decide +kernel
theorem dL_holds_15 : decode cL_holds 15 = .ok (.iload_n 3, 1) := by decide +kernel
theorem dL_holds_16 : decode cL_holds 16 = .ok (.invokevirtual 43, 3) := by decide +kernel
theorem dL_holds_19 : decode cL_holds 19 = .ok (.istore 4, 2) := by decide +kernel
theorem dL_holds_21 : decode cL_holds 21 = .ok (.iload_n 2, 1) := by decide +kernel
theorem dL_holds_22 : decode cL_holds 22 = .ok (.iload 4, 2) := by decide +kernel
theorem dL_holds_24 : decode cL_holds 24 = .ok (.ifCond .eq 7, 3) := by decide +kernel
theorem dL_holds_27 : decode cL_holds 27 = .ok (.iconst 1, 1) := by decide +kernel
theorem dL_holds_28 : decode cL_holds 28 = .ok (.goto 4, 3) := by decide +kernel
theorem dL_holds_31 : decode cL_holds 31 = .ok (.iconst 0, 1) := by decide +kernel
theorem dL_holds_32 : decode cL_holds 32 = .ok (.iadd, 1) := by decide +kernel
theorem dL_holds_33 : decode cL_holds 33 = .ok (.istore_n 2, 1) := by decide +kernel
theorem dL_holds_34 : decode cL_holds 34 = .ok (.iload_n 1, 1) := by decide +kernel
theorem dL_holds_35 : decode cL_holds 35 = .ok (.iload 4, 2) := by decide +kernel
theorem dL_holds_37 : decode cL_holds 37 = .ok (.ifCond .eq 7, 3) := by decide +kernel
theorem dL_holds_40 : decode cL_holds 40 = .ok (.iconst 0, 1) := by decide +kernel
theorem dL_holds_41 : decode cL_holds 41 = .ok (.goto 8, 3) := by decide +kernel
theorem dL_holds_44 : decode cL_holds 44 = .ok (.aload_n 0, 1) := by decide +kernel
theorem dL_holds_45 : decode cL_holds 45 = .ok (.iload_n 3, 1) := by decide +kernel
theorem dL_holds_46 : decode cL_holds 46 = .ok (.invokevirtual 123, 3) := by decide +kernel
theorem dL_holds_49 : decode cL_holds 49 = .ok (.iadd, 1) := by decide +kernel
theorem dL_holds_50 : decode cL_holds 50 = .ok (.istore_n 1, 1) := by decide +kernel
theorem dL_holds_51 : decode cL_holds 51 = .ok (.iconst 0, 1) := by decide +kernel
theorem dL_holds_52 : decode cL_holds 52 = .ok (.istore 5, 2) := by decide +kernel
theorem dL_holds_54 : decode cL_holds 54 = .ok (.iload 5, 2) := by decide +kernel
theorem dL_holds_56 : decode cL_holds 56 = .ok (.aload_n 0, 1) := by decide +kernel
theorem dL_holds_57 : decode cL_holds 57 = .ok (.iload_n 3, 1) := by decide +kernel
theorem dL_holds_58 : decode cL_holds 58 = .ok (.invokevirtual 123, 3) := by decide +kernel
theorem dL_holds_61 : decode cL_holds 61 = .ok (.if_icmp .ge 57, 3) := by decide +kernel
theorem dL_holds_64 : decode cL_holds 64 = .ok (.iload 4, 2) := by decide +kernel
theorem dL_holds_66 : decode cL_holds 66 = .ok (.ifCond .ne 52, 3) := by decide +kernel
theorem dL_holds_69 : decode cL_holds 69 = .ok (.aload_n 0, 1) := by decide +kernel
theorem dL_holds_70 : decode cL_holds 70 = .ok (.aload_n 0, 1) := by decide +kernel
theorem dL_holds_71 : decode cL_holds 71 = .ok (.iload_n 3, 1) := by decide +kernel
theorem dL_holds_72 : decode cL_holds 72 = .ok (.invokevirtual 33, 3) := by decide +kernel
theorem dL_holds_75 : decode cL_holds 75 = .ok (.aload_n 0, 1) := by decide +kernel
theorem dL_holds_76 : decode cL_holds 76 = .ok (.iload_n 3, 1) := by decide +kernel
theorem dL_holds_77 : decode cL_holds 77 = .ok (.invokevirtual 37, 3) := by decide +kernel
theorem dL_holds_80 : decode cL_holds 80 = .ok (.iload 5, 2) := by decide +kernel
theorem dL_holds_82 : decode cL_holds 82 = .ok (.iadd, 1) := by decide +kernel
theorem dL_holds_83 : decode cL_holds 83 = .ok (.invokevirtual 126, 3) := by decide +kernel
theorem dL_holds_86 : decode cL_holds 86 = .ok (.ifCond .ne 24, 3) := by decide +kernel
theorem dL_holds_89 : decode cL_holds 89 = .ok (.aload_n 0, 1) := by decide +kernel
theorem dL_holds_90 : decode cL_holds 90 = .ok (.aload_n 0, 1) := by decide +kernel
theorem dL_holds_91 : decode cL_holds 91 = .ok (.iload_n 3, 1) := by decide +kernel
theorem dL_holds_92 : decode cL_holds 92 = .ok (.invokevirtual 33, 3) := by decide +kernel
theorem dL_holds_95 : decode cL_holds 95 = .ok (.aload_n 0, 1) := by decide +kernel
theorem dL_holds_96 : decode cL_holds 96 = .ok (.iload_n 3, 1) := by decide +kernel
theorem dL_holds_97 : decode cL_holds 97 = .ok (.invokevirtual 37, 3) := by decide +kernel
theorem dL_holds_100 : decode cL_holds 100 = .ok (.iload 5, 2) := by decide +kernel
theorem dL_holds_102 : decode cL_holds 102 = .ok (.iadd, 1) := by decide +kernel
theorem dL_holds_103 : decode cL_holds 103 = .ok (.invokevirtual 130, 3) := by decide +kernel
theorem dL_holds_106 : decode cL_holds 106 = .ok (.iload_n 3, 1) := by decide +kernel
theorem dL_holds_107 : decode cL_holds 107 = .ok (.if_icmp .eq 5, 3) := by decide +kernel
theorem dL_holds_110 : decode cL_holds 110 = .ok (.iconst 0, 1) := by decide +kernel
theorem dL_holds_111 : decode cL_holds 111 = .ok (.ireturn, 1) := by decide +kernel
theorem dL_holds_112 : decode cL_holds 112 = .ok (.iinc 5 1, 3) := by decide +kernel
theorem dL_holds_115 : decode cL_holds 115 = .ok (.goto (-61), 3) := by decide +kernel
theorem dL_holds_118 : decode cL_holds 118 = .ok (.aload_n 0, 1) := by decide +kernel
theorem dL_holds_119 : decode cL_holds 119 = .ok (.iload_n 3, 1) := by decide +kernel
theorem dL_holds_120 : decode cL_holds 120 = .ok (.invokevirtual 47, 3) := by decide +kernel
theorem dL_holds_123 : decode cL_holds 123 = .ok (.ifCond .lt 46, 3) := by decide +kernel
theorem dL_holds_126 : decode cL_holds 126 = .ok (.aload_n 0, 1) := by decide +kernel
theorem dL_holds_127 : decode cL_holds 127 = .ok (.iload_n 3, 1) := by decide +kernel
theorem dL_holds_128 : decode cL_holds 128 = .ok (.invokevirtual 47, 3) := by decide +kernel
theorem dL_holds_131 : decode cL_holds 131 = .ok (.sipush 150, 3) := by decide +kernel
theorem dL_holds_134 : decode cL_holds 134 = .ok (.if_icmp .gt 35, 3) := by decide +kernel
theorem dL_holds_137 : decode cL_holds 137 = .ok (.aload_n 0, 1) := by decide +kernel
theorem dL_holds_138 : decode cL_holds 138 = .ok (.aload_n 0, 1) := by decide +kernel
theorem dL_holds_139 : decode cL_holds 139 = .ok (.invokevirtual 133, 3) := by decide +kernel
theorem dL_holds_142 : decode cL_holds 142 = .ok (.invokevirtual 47, 3) := by decide +kernel
theorem dL_holds_145 : decode cL_holds 145 = .ok (.aload_n 0, 1) := by decide +kernel
theorem dL_holds_146 : decode cL_holds 146 = .ok (.iload_n 3, 1) := by decide +kernel
theorem dL_holds_147 : decode cL_holds 147 = .ok (.invokevirtual 47, 3) := by decide +kernel
theorem dL_holds_150 : decode cL_holds 150 = .ok (.if_icmp .lt 19, 3) := by decide +kernel
theorem dL_holds_153 : decode cL_holds 153 = .ok (.aload_n 0, 1) := by decide +kernel
theorem dL_holds_154 : decode cL_holds 154 = .ok (.aload_n 0, 1) := by decide +kernel
theorem dL_holds_155 : decode cL_holds 155 = .ok (.invokevirtual 136, 3) := by decide +kernel
theorem dL_holds_158 : decode cL_holds 158 = .ok (.invokevirtual 40, 3) := by decide +kernel
theorem dL_holds_161 : decode cL_holds 161 = .ok (.aload_n 0, 1) := by decide +kernel
theorem dL_holds_162 : decode cL_holds 162 = .ok (.iload_n 3, 1) := by decide +kernel
theorem dL_holds_163 : decode cL_holds 163 = .ok (.invokevirtual 40, 3) := by decide +kernel
theorem dL_holds_166 : decode cL_holds 166 = .ok (.if_icmp .ge 5, 3) := by decide +kernel
theorem dL_holds_169 : decode cL_holds 169 = .ok (.iconst 0, 1) := by decide +kernel
theorem dL_holds_170 : decode cL_holds 170 = .ok (.ireturn, 1) := by decide +kernel
theorem dL_holds_171 : decode cL_holds 171 = .ok (.iinc 3 1, 3) := by decide +kernel
theorem dL_holds_174 : decode cL_holds 174 = .ok (.goto (-168), 3) := by decide +kernel
theorem dL_holds_177 : decode cL_holds 177 = .ok (.iconst 0, 1) := by decide +kernel
theorem dL_holds_178 : decode cL_holds 178 = .ok (.istore_n 3, 1) := by decide +kernel
theorem dL_holds_179 : decode cL_holds 179 = .ok (.iload_n 3, 1) := by decide +kernel
theorem dL_holds_180 : decode cL_holds 180 = .ok (.bipush 10, 2) := by decide +kernel
theorem dL_holds_182 : decode cL_holds 182 = .ok (.if_icmp .ge 57, 3) := by decide +kernel
theorem dL_holds_185 : decode cL_holds 185 = .ok (.aload_n 0, 1) := by decide +kernel
theorem dL_holds_186 : decode cL_holds 186 = .ok (.iload_n 3, 1) := by decide +kernel
theorem dL_holds_187 : decode cL_holds 187 = .ok (.invokevirtual 139, 3) := by decide +kernel
theorem dL_holds_190 : decode cL_holds 190 = .ok (.aload_n 0, 1) := by decide +kernel
theorem dL_holds_191 : decode cL_holds 191 = .ok (.iload_n 3, 1) := by decide +kernel
theorem dL_holds_192 : decode cL_holds 192 = .ok (.invokevirtual 50, 3) := by decide +kernel
theorem dL_holds_195 : decode cL_holds 195 = .ok (.if_icmp .ne 36, 3) := by decide +kernel
theorem dL_holds_198 : decode cL_holds 198 = .ok (.aload_n 0, 1) := by decide +kernel
theorem dL_holds_199 : decode cL_holds 199 = .ok (.iload_n 3, 1) := by decide +kernel
theorem dL_holds_200 : decode cL_holds 200 = .ok (.invokevirtual 142, 3) := by decide +kernel
theorem dL_holds_203 : decode cL_holds 203 = .ok (.ifCond .le 7, 3) := by decide +kernel
theorem dL_holds_206 : decode cL_holds 206 = .ok (.iconst 1, 1) := by decide +kernel
theorem dL_holds_207 : decode cL_holds 207 = .ok (.goto 4, 3) := by decide +kernel
theorem dL_holds_210 : decode cL_holds 210 = .ok (.iconst 0, 1) := by decide +kernel
theorem dL_holds_211 : decode cL_holds 211 = .ok (.aload_n 0, 1) := by decide +kernel
theorem dL_holds_212 : decode cL_holds 212 = .ok (.invokevirtual 145, 3) := by decide +kernel
theorem dL_holds_215 : decode cL_holds 215 = .ok (.iload_n 3, 1) := by decide +kernel
theorem dL_holds_216 : decode cL_holds 216 = .ok (.ishr, 1) := by decide +kernel
theorem dL_holds_217 : decode cL_holds 217 = .ok (.iconst 1, 1) := by decide +kernel
theorem dL_holds_218 : decode cL_holds 218 = .ok (.iand, 1) := by decide +kernel
theorem dL_holds_219 : decode cL_holds 219 = .ok (.iconst 1, 1) := by decide +kernel
theorem dL_holds_220 : decode cL_holds 220 = .ok (.if_icmp .ne 7, 3) := by decide +kernel
theorem dL_holds_223 : decode cL_holds 223 = .ok (.iconst 1, 1) := by decide +kernel
theorem dL_holds_224 : decode cL_holds 224 = .ok (.goto 4, 3) := by decide +kernel
theorem dL_holds_227 : decode cL_holds 227 = .ok (.iconst 0, 1) := by decide +kernel
theorem dL_holds_228 : decode cL_holds 228 = .ok (.if_icmp .eq 5, 3) := by decide +kernel
theorem dL_holds_231 : decode cL_holds 231 = .ok (.iconst 0, 1) := by decide +kernel
theorem dL_holds_232 : decode cL_holds 232 = .ok (.ireturn, 1) := by decide +kernel
theorem dL_holds_233 : decode cL_holds 233 = .ok (.iinc 3 1, 3) := by decide +kernel
theorem dL_holds_236 : decode cL_holds 236 = .ok (.goto (-57), 3) := by decide +kernel
theorem dL_holds_239 : decode cL_holds 239 = .ok (.iconst 0, 1) := by decide +kernel
theorem dL_holds_240 : decode cL_holds 240 = .ok (.istore_n 3, 1) := by decide +kernel
theorem dL_holds_241 : decode cL_holds 241 = .ok (.iload_n 3, 1) := by decide +kernel
theorem dL_holds_242 : decode cL_holds 242 = .ok (.aload_n 0, 1) := by decide +kernel
theorem dL_holds_243 : decode cL_holds 243 = .ok (.invokevirtual 30, 3) := by decide +kernel
theorem dL_holds_246 : decode cL_holds 246 = .ok (.if_icmp .ge 95, 3) := by decide +kernel
theorem dL_holds_249 : decode cL_holds 249 = .ok (.iconst 1, 1) := by decide +kernel
theorem dL_holds_250 : decode cL_holds 250 = .ok (.istore 4, 2) := by decide +kernel
theorem dL_holds_252 : decode cL_holds 252 = .ok (.iconst 0, 1) := by decide +kernel
theorem dL_holds_253 : decode cL_holds 253 = .ok (.istore 5, 2) := by decide +kernel
theorem dL_holds_255 : decode cL_holds 255 = .ok (.iload 5, 2) := by decide +kernel
theorem dL_holds_257 : decode cL_holds 257 = .ok (.bipush 10, 2) := by decide +kernel
theorem dL_holds_259 : decode cL_holds 259 = .ok (.if_icmp .ge 37, 3) := by decide +kernel
theorem dL_holds_262 : decode cL_holds 262 = .ok (.iload 4, 2) := by decide +kernel
theorem dL_holds_264 : decode cL_holds 264 = .ok (.ifCond .eq 23, 3) := by decide +kernel
theorem dL_holds_267 : decode cL_holds 267 = .ok (.aload_n 0, 1) := by decide +kernel
theorem dL_holds_268 : decode cL_holds 268 = .ok (.iload_n 3, 1) := by decide +kernel
theorem dL_holds_269 : decode cL_holds 269 = .ok (.iload 5, 2) := by decide +kernel
theorem dL_holds_271 : decode cL_holds 271 = .ok (.invokevirtual 148, 3) := by decide +kernel
theorem dL_holds_274 : decode cL_holds 274 = .ok (.aload_n 0, 1) := by decide +kernel
theorem dL_holds_275 : decode cL_holds 275 = .ok (.iload 5, 2) := by decide +kernel
theorem dL_holds_277 : decode cL_holds 277 = .ok (.invokevirtual 139, 3) := by decide +kernel
theorem dL_holds_280 : decode cL_holds 280 = .ok (.if_icmp .gt 7, 3) := by decide +kernel
theorem dL_holds_283 : decode cL_holds 283 = .ok (.iconst 1, 1) := by decide +kernel
theorem dL_holds_284 : decode cL_holds 284 = .ok (.goto 4, 3) := by decide +kernel
theorem dL_holds_287 : decode cL_holds 287 = .ok (.iconst 0, 1) := by decide +kernel
theorem dL_holds_288 : decode cL_holds 288 = .ok (.istore 4, 2) := by decide +kernel
theorem dL_holds_290 : decode cL_holds 290 = .ok (.iinc 5 1, 3) := by decide +kernel
theorem dL_holds_293 : decode cL_holds 293 = .ok (.goto (-38), 3) := by decide +kernel
theorem dL_holds_296 : decode cL_holds 296 = .ok (.aload_n 0, 1) := by decide +kernel
theorem dL_holds_297 : decode cL_holds 297 = .ok (.iload_n 3, 1) := by decide +kernel
theorem dL_holds_298 : decode cL_holds 298 = .ok (.invokevirtual 151, 3) := by decide +kernel
theorem dL_holds_301 : decode cL_holds 301 = .ok (.iload 4, 2) := by decide +kernel
theorem dL_holds_303 : decode cL_holds 303 = .ok (.if_icmp .ne 30, 3) := by decide +kernel
theorem dL_holds_306 : decode cL_holds 306 = .ok (.iload 4, 2) := by decide +kernel
theorem dL_holds_308 : decode cL_holds 308 = .ok (.ifCond .eq 27, 3) := by decide +kernel
theorem dL_holds_311 : decode cL_holds 311 = .ok (.aload_n 0, 1) := by decide +kernel
theorem dL_holds_312 : decode cL_holds 312 = .ok (.iload_n 3, 1) := by decide +kernel
theorem dL_holds_313 : decode cL_holds 313 = .ok (.invokevirtual 154, 3) := by decide +kernel
theorem dL_holds_316 : decode cL_holds 316 = .ok (.aload_n 0, 1) := by decide +kernel
theorem dL_holds_317 : decode cL_holds 317 = .ok (.iload_n 3, 1) := by decide +kernel
theorem dL_holds_318 : decode cL_holds 318 = .ok (.invokevirtual 157, 3) := by decide +kernel
theorem dL_holds_321 : decode cL_holds 321 = .ok (.if_icmp .ne 12, 3) := by decide +kernel
theorem dL_holds_324 : decode cL_holds 324 = .ok (.aload_n 0, 1) := by decide +kernel
theorem dL_holds_325 : decode cL_holds 325 = .ok (.iload_n 3, 1) := by decide +kernel
theorem dL_holds_326 : decode cL_holds 326 = .ok (.invokevirtual 154, 3) := by decide +kernel
theorem dL_holds_329 : decode cL_holds 329 = .ok (.iconst 1, 1) := by decide +kernel
theorem dL_holds_330 : decode cL_holds 330 = .ok (.if_icmp .ge 5, 3) := by decide +kernel
theorem dL_holds_333 : decode cL_holds 333 = .ok (.iconst 0, 1) := by decide +kernel
theorem dL_holds_334 : decode cL_holds 334 = .ok (.ireturn, 1) := by decide +kernel
theorem dL_holds_335 : decode cL_holds 335 = .ok (.iinc 3 1, 3) := by decide +kernel
theorem dL_holds_338 : decode cL_holds 338 = .ok (.goto (-97), 3) := by decide +kernel
theorem dL_holds_341 : decode cL_holds 341 = .ok (.iload_n 2, 1) := by decide +kernel
theorem dL_holds_342 : decode cL_holds 342 = .ok (.iconst 1, 1) := by decide +kernel
theorem dL_holds_343 : decode cL_holds 343 = .ok (.if_icmp .gt 61, 3) := by decide +kernel
theorem dL_holds_346 : decode cL_holds 346 = .ok (.aload_n 0, 1) := by decide +kernel
theorem dL_holds_347 : decode cL_holds 347 = .ok (.invokevirtual 160, 3) := by decide +kernel
theorem dL_holds_350 : decode cL_holds 350 = .ok (.bipush 40, 2) := by decide +kernel
theorem dL_holds_352 : decode cL_holds 352 = .ok (.iload_n 1, 1) := by decide +kernel
theorem dL_holds_353 : decode cL_holds 353 = .ok (.isub, 1) := by decide +kernel
theorem dL_holds_354 : decode cL_holds 354 = .ok (.if_icmp .ne 50, 3) := by decide +kernel
theorem dL_holds_357 : decode cL_holds 357 = .ok (.aload_n 0, 1) := by decide +kernel
theorem dL_holds_358 : decode cL_holds 358 = .ok (.invokevirtual 163, 3) := by decide +kernel
theorem dL_holds_361 : decode cL_holds 361 = .ok (.bipush 40, 2) := by decide +kernel
theorem dL_holds_363 : decode cL_holds 363 = .ok (.iload_n 1, 1) := by decide +kernel
theorem dL_holds_364 : decode cL_holds 364 = .ok (.isub, 1) := by decide +kernel
theorem dL_holds_365 : decode cL_holds 365 = .ok (.if_icmp .ne 39, 3) := by decide +kernel
theorem dL_holds_368 : decode cL_holds 368 = .ok (.aload_n 0, 1) := by decide +kernel
theorem dL_holds_369 : decode cL_holds 369 = .ok (.invokevirtual 18, 3) := by decide +kernel
theorem dL_holds_372 : decode cL_holds 372 = .ok (.ifCond .lt 32, 3) := by decide +kernel
theorem dL_holds_375 : decode cL_holds 375 = .ok (.aload_n 0, 1) := by decide +kernel
theorem dL_holds_376 : decode cL_holds 376 = .ok (.invokevirtual 18, 3) := by decide +kernel
theorem dL_holds_379 : decode cL_holds 379 = .ok (.bipush 20, 2) := by decide +kernel
theorem dL_holds_381 : decode cL_holds 381 = .ok (.if_icmp .ge 23, 3) := by decide +kernel
theorem dL_holds_384 : decode cL_holds 384 = .ok (.aload_n 0, 1) := by decide +kernel
theorem dL_holds_385 : decode cL_holds 385 = .ok (.invokevirtual 62, 3) := by decide +kernel
theorem dL_holds_388 : decode cL_holds 388 = .ok (.bipush 8, 2) := by decide +kernel
theorem dL_holds_390 : decode cL_holds 390 = .ok (.if_icmp .gt 14, 3) := by decide +kernel
theorem dL_holds_393 : decode cL_holds 393 = .ok (.aload_n 0, 1) := by decide +kernel
theorem dL_holds_394 : decode cL_holds 394 = .ok (.invokevirtual 24, 3) := by decide +kernel
theorem dL_holds_397 : decode cL_holds 397 = .ok (.ifCond .lt 7, 3) := by decide +kernel
theorem dL_holds_400 : decode cL_holds 400 = .ok (.iconst 1, 1) := by decide +kernel
theorem dL_holds_401 : decode cL_holds 401 = .ok (.goto 4, 3) := by decide +kernel
theorem dL_holds_404 : decode cL_holds 404 = .ok (.iconst 0, 1) := by decide +kernel
theorem dL_holds_405 : decode cL_holds 405 = .ok (.ireturn, 1) := by decide +kernel
