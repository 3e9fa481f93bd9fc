theorem dL_fetchesOf_8 : decode cL_fetchesOf 8 = .ok (.lastore, 1) := by decide +kernel
theorem dL_fetchesOf_9 : decode cL_fetchesOf 9 = .ok (.goto 6, 3) := by decide +kernel
theorem dL_fetchesOf_12 : decode cL_fetchesOf 12 = .ok (.astore_n 3, 1) := by decide +kernel
theorem dL_fetchesOf_13 : decode cL_fetchesOf 13 = .ok (.iconst 1, 1) := by decide +kernel
theorem dL_fetchesOf_14 : decode cL_fetchesOf 14 = .ok (.ireturn, 1) := by decide +kernel
theorem dL_fetchesOf_15 : decode cL_fetchesOf 15 = .ok (.iconst 0, 1) := by decide +kernel
theorem dL_fetchesOf_16 : decode cL_fetchesOf 16 = .ok (.ireturn, 1) := by decide +kernel
set_option maxRecDepth 20000 in
theorem ggL_atWindow_X8_atWindow : GoodIn wsL_atWindow wsX8_atWindow := goodIn_ca (goodIn_r _ [6, 7, 8, 9, 10, 5, 11, 12, 13, 14, 15, 16, 17, 18, 19, 20, 21, 22, 23, 24, 25, 26, 27, 28, 29, 30] (by decide +kernel) (by decide +kernel)) (goodIn_sub (fun _ h => List.mem_cons_of_mem _ (List.mem_append_right _ h)) (by decide +kernel))
set_option maxRecDepth 20000 in
theorem gL_atWindow_X8_atWindow : GoodIn wsL_atWindow (wsV RL 95 RX8 yX8_atWindow wsX8_atWindow) := goodIn_app (goodIn_of _ (by decide +kernel)) ggL_atWindow_X8_atWindow
theorem dL_atWindow_0 : decode cL_atWindow 0 = .ok (.aload_n 1, 1) := by decide +kernel
theorem dL_atWindow_1 : decode cL_atWindow 1 = .ok (.iconst 0, 1) := by decide +kernel
theorem dL_atWindow_2 : decode cL_atWindow 2 = .ok (.aload_n 0, 1) := by decide +kernel
theorem dL_atWindow_3 : decode cL_atWindow 3 = .ok (.invokevirtual 95, 3) := by decide +kernel
theorem dL_atWindow_6 : decode cL_atWindow 6 = .ok (.i2l, 1) := by decide +kernel
theorem dL_atWindow_7 : decode cL_atWindow 7 = .ok (.lastore, 1) := by decide +kernel
theorem dL_atWindow_8 : decode cL_atWindow 8 = .ok (.goto 6, 3) := by decide +kernel
theorem dL_atWindow_11 : decode cL_atWindow 11 = .ok (.astore_n 2, 1) := by decide +kernel
theorem dL_atWindow_12 : decode cL_atWindow 12 = .ok (.iconst 1, 1) := by decide +kernel
theorem dL_atWindow_13 : decode cL_atWindow 13 = .ok (.ireturn, 1) := by decide +kernel
theorem dL_atWindow_14 : decode cL_atWindow 14 = .ok (.iconst 0, 1) := by decide +kernel
theorem dL_atWindow_15 : decode cL_atWindow 15 = .ok (.ireturn, 1) := by decide +kernel
set_option maxRecDepth 20000 in
theorem ggL_isFree_X8_isFree : GoodIn wsL_isFree wsX8_isFree := goodIn_ca (goodIn_r _ [6, 7, 8, 9, 10, 5, 11, 12, 13, 14, 15, 16, 17, 18, 19, 20, 21, 22, 23, 24, 25, 26, 27, 28, 29, 30, 31, 32, 33, 34, 35, 36, 37, 38, 39, 40, 41, 42] (by decide +kernel) (by decide +kernel)) (goodIn_sub (fun _ h => List.mem_cons_of_mem _ (List.mem_append_right _ h)) (by decide +kernel))
set_option maxRecDepth 20000 in
theorem gL_isFree_X8_isFree : GoodIn wsL_isFree (wsV RL 98 RX8 yX8_isFree wsX8_isFree) := goodIn_app (goodIn_of _ (by decide +kernel)) ggL_isFree_X8_isFree
theorem dL_isFree_0 : decode cL_isFree 0 = .ok (.aload_n 3, 1) := by decide +kernel
theorem dL_isFree_1 : decode cL_isFree 1 = .ok (.iconst 0, 1) := by decide +kernel
theorem dL_isFree_2 : decode cL_isFree 2 = .ok (.aload_n 0, 1) := by decide +kernel
theorem dL_isFree_3 : decode cL_isFree 3 = .ok (.iload_n 1, 1) := by decide +kernel
theorem dL_isFree_4 : decode cL_isFree 4 = .ok (.iload_n 2, 1) := by decide +kernel
theorem dL_isFree_5 : decode cL_isFree 5 = .ok (.invokevirtual 98, 3) := by decide +kernel
theorem dL_isFree_8 : decode cL_isFree 8 = .ok (.ifCond .eq 7, 3) := by decide +kernel
theorem dL_isFree_11 : decode cL_isFree 11 = .ok (.lconst 1, 1) := by decide +kernel
theorem dL_isFree_12 : decode cL_isFree 12 = .ok (.goto 4, 3) := by decide +kernel
theorem dL_isFree_15 : decode cL_isFree 15 = .ok (.lconst 0, 1) := by decide +kernel
theorem dL_isFree_16 : decode cL_isFree 16 = .ok (.lastore, 1) := by decide +kernel
theorem dL_isFree_17 : decode cL_isFree 17 = .ok (.goto 7, 3) := by decide +kernel
theorem dL_isFree_20 : decode cL_isFree 20 = .ok (.astore 4, 2) := by decide +kernel
theorem dL_isFree_22 : decode cL_isFree 22 = .ok (.iconst 1, 1) := by decide +kernel
theorem dL_isFree_23 : decode cL_isFree 23 = .ok (.ireturn, 1) := by decide +kernel
theorem dL_isFree_24 : decode cL_isFree 24 = .ok (.iconst 0, 1) := by decide +kernel
theorem dL_isFree_25 : decode cL_isFree 25 = .ok (.ireturn, 1) := by decide +kernel
set_option maxRecDepth 20000 in
theorem ggL_shelfAt_X8_shelfAt : GoodIn wsL_shelfAt wsX8_shelfAt := goodIn_ca (goodIn_ca (goodIn_r _ [7, 8, 9, 10, 11, 12, 13, 6, 14, 15, 16, 17, 18, 19, 20, 21, 22, 23, 24, 25, 26, 27, 28, 29, 30, 31, 32, 33, 34, 35, 36, 37, 38, 39, 40, 41, 42, 43, 44, 45] (by decide +kernel) (by decide +kernel)) (goodIn_sub (fun _ h => List.mem_cons_of_mem _ (List.mem_append_left _ (List.mem_append_right _ h))) (by decide +kernel))) (goodIn_sub (fun _ h => List.mem_cons_of_mem _ (List.mem_append_right _ h)) (by decide +kernel))
set_option maxRecDepth 20000 in
theorem gL_shelfAt_X8_shelfAt : GoodIn wsL_shelfAt (wsV RL 102 RX8 yX8_shelfAt wsX8_shelfAt) := goodIn_app (goodIn_of _ (by decide +kernel)) ggL_shelfAt_X8_shelfAt
theorem dL_shelfAt_0 : decode cL_shelfAt 0 = .ok (.aload_n 3, 1) := by decide +kernel
theorem dL_shelfAt_1 : decode cL_shelfAt 1 = .ok (.iconst 0, 1) := by decide +kernel
theorem dL_shelfAt_2 : decode cL_shelfAt 2 = .ok (.aload_n 0, 1) := by decide +kernel
theorem dL_shelfAt_3 : decode cL_shelfAt 3 = .ok (.iload_n 1, 1) := by decide +kernel
theorem dL_shelfAt_4 : decode cL_shelfAt 4 = .ok (.iload_n 2, 1) := by decide +kernel
theorem dL_shelfAt_5 : decode cL_shelfAt 5 = .ok (.invokevirtual 102, 3) := by decide +kernel
theorem dL_shelfAt_8 : decode cL_shelfAt 8 = .ok (.i2l, 1) := by decide +kernel
theorem dL_shelfAt_9 : decode cL_shelfAt 9 = .ok (.lastore, 1) := by decide +kernel
theorem dL_shelfAt_10 : decode cL_shelfAt 10 = .ok (.goto 11, 3) := by decide +kernel
theorem dL_shelfAt_13 : decode cL_shelfAt 13 = .ok (.astore 4, 2) := by decide +kernel
theorem dL_shelfAt_15 : decode cL_shelfAt 15 = .ok (.iconst 1, 1) := by decide +kernel
theorem dL_shelfAt_16 : decode cL_shelfAt 16 = .ok (.ireturn, 1) := by decide +kernel
theorem dL_shelfAt_17 : decode cL_shelfAt 17 = .ok (.astore 4, 2) := by decide +kernel
theorem dL_shelfAt_19 : decode cL_shelfAt 19 = .ok (.iconst 2, 1) := by decide +kernel
theorem dL_shelfAt_20 : decode cL_shelfAt 20 = .ok (.ireturn, 1) := by decide +kernel
theorem dL_shelfAt_21 : decode cL_shelfAt 21 = .ok (.iconst 0, 1) := by decide +kernel
theorem dL_shelfAt_22 : decode cL_shelfAt 22 = .ok (.ireturn, 1) := by decide +kernel
set_option maxRecDepth 20000 in
theorem ggL_firstPlace_X8_firstPlace : GoodIn wsL_firstPlace wsX8_firstPlace := goodIn_ca (goodIn_ca (goodIn_r _ [7, 8, 9, 10, 11, 12, 13, 6, 14, 15, 16, 17, 18, 19, 20, 21, 22, 23, 24, 25, 26, 27, 28, 29, 30, 31, 32, 33, 34, 35, 36, 37, 38, 39, 40, 41, 42, 43, 44, 45, 46, 47, 48, 49, 50, 51, 52, 53, 54] (by decide +kernel) (by decide +kernel)) (goodIn_sub (fun _ h => List.mem_cons_of_mem _ (List.mem_append_left _ (List.mem_append_right _ h))) (by decide +kernel))) (goodIn_sub (fun _ h => List.mem_cons_of_mem _ (List.mem_append_right _ h)) (by decide +kernel))
set_option maxRecDepth 20000 in
theorem gL_firstPlace_X8_firstPlace : GoodIn wsL_firstPlace (wsV RL 105 RX8 yX8_firstPlace wsX8_firstPlace) := goodIn_app (goodIn_of _ (by decide +kernel)) ggL_firstPlace_X8_firstPlace
theorem dL_firstPlace_0 : decode cL_firstPlace 0 = .ok (.aload_n 2, 1) := by decide +kernel
theorem dL_firstPlace_1 : decode cL_firstPlace 1 = .ok (.iconst 0, 1) := by decide +kernel
theorem dL_firstPlace_2 : decode cL_firstPlace 2 = .ok (.aload_n 0, 1) := by decide +kernel
theorem dL_firstPlace_3 : decode cL_firstPlace 3 = .ok (.iload_n 1, 1) := by decide +kernel
theorem dL_firstPlace_4 : decode cL_firstPlace 4 = .ok (.invokevirtual 105, 3) := by decide +kernel
theorem dL_firstPlace_7 : decode cL_firstPlace 7 = .ok (.i2l, 1) := by decide +kernel
theorem dL_firstPlace_8 : decode cL_firstPlace 8 = .ok (.lastore, 1) := by decide +kernel
theorem dL_firstPlace_9 : decode cL_firstPlace 9 = .ok (.goto 9, 3) := by decide +kernel
theorem dL_firstPlace_12 : decode cL_firstPlace 12 = .ok (.astore_n 3, 1) := by decide +kernel
theorem dL_firstPlace_13 : decode cL_firstPlace 13 = .ok (.iconst 1, 1) := by decide +kernel
theorem dL_firstPlace_14 : decode cL_firstPlace 14 = .ok (.ireturn, 1) := by decide +kernel
theorem dL_firstPlace_15 : decode cL_firstPlace 15 = .ok (.astore_n 3, 1) := by decide +kernel
theorem dL_firstPlace_16 : decode cL_firstPlace 16 = .ok (.iconst 2, 1) := by decide +kernel
theorem dL_firstPlace_17 : decode cL_firstPlace 17 = .ok (.ireturn, 1) := by decide +kernel
theorem dL_firstPlace_18 : decode cL_firstPlace 18 = .ok (.iconst 0, 1) := by decide +kernel
theorem dL_firstPlace_19 : decode cL_firstPlace 19 = .ok (.ireturn, 1) := by decide +kernel
set_option maxRecDepth 20000 in
theorem ggL_longestGap_X8_longestGap : GoodIn wsL_longestGap wsX8_longestGap := goodIn_ca (goodIn_r _ [6, 7, 8, 9, 10, 5, 11, 12, 13, 14, 15, 16, 17, 18, 19, 20, 21, 22, 23, 24, 25, 26, 27, 28, 29, 30, 31, 32, 33, 34, 35, 36, 37, 38, 39, 40, 41, 42, 43, 44, 45, 46, 47, 48, 49, 50, 51, 52] (by decide +kernel) (by decide +kernel)) (goodIn_sub (fun _ h => List.mem_cons_of_mem _ (List.mem_append_right _ h)) (by decide +kernel))
set_option maxRecDepth 20000 in
theorem gL_longestGap_X8_longestGap : GoodIn wsL_longestGap (wsV RL 108 RX8 yX8_longestGap wsX8_longestGap) := goodIn_app (goodIn_of _ (by decide +kernel)) ggL_longestGap_X8_longestGap
theorem dL_longestGap_0 : decode cL_longestGap 0 = .ok (.aload_n 2, 1) := by decide +kernel
theorem dL_longestGap_1 : decode cL_longestGap 1 = .ok (.iconst 0, 1) := by decide +kernel
theorem dL_longestGap_2 : decode cL_longestGap 2 = .ok (.aload_n 0, 1) := by decide +kernel
theorem dL_longestGap_3 : decode cL_longestGap 3 = .ok (.iload_n 1, 1) := by decide +kernel
theorem dL_longestGap_4 : decode cL_longestGap 4 = .ok (.invokevirtual 108, 3) := by decide +kernel
theorem dL_longestGap_7 : decode cL_longestGap 7 = .ok (.i2l, 1) := by decide +kernel
theorem dL_longestGap_8 : decode cL_longestGap 8 = .ok (.lastore, 1) := by decide +kernel
theorem dL_longestGap_9 : decode cL_longestGap 9 = .ok (.goto 6, 3) := by decide +kernel
theorem dL_longestGap_12 : decode cL_longestGap 12 = .ok (.astore_n 3, 1) := by decide +kernel
theorem dL_longestGap_13 : decode cL_longestGap 13 = .ok (.iconst 1, 1) := by decide +kernel
theorem dL_longestGap_14 : decode cL_longestGap 14 = .ok (.ireturn, 1) := by decide +kernel
theorem dL_longestGap_15 : decode cL_longestGap 15 = .ok (.iconst 0, 1) := by decide +kernel
theorem dL_longestGap_16 : decode cL_longestGap 16 = .ok (.ireturn, 1) := by decide +kernel
set_option maxRecDepth 20000 in
theorem ggL_wouldPack_X8_wouldPack : GoodIn wsL_wouldPack wsX8_wouldPack := goodIn_ca (goodIn_r _ [6, 7, 8, 9, 10, 11, 5, 12, 13, 14, 15, 16, 17, 18, 19, 20, 21, 22, 23, 24, 25, 26, 27, 28, 29, 30, 31, 32, 33, 34, 35, 36, 37, 38, 39, 40, 41, 42, 43, 44, 45, 46, 47, 48, 49, 50, 51, 52, 53, 54, 55, 56, 57, 58, 59] (by decide +kernel) (by decide +kernel)) (goodIn_sub (fun _ h => List.mem_cons_of_mem _ (List.mem_append_right _ h)) (by decide +kernel))
set_option maxRecDepth 20000 in
theorem gL_wouldPack_X8_wouldPack : GoodIn wsL_wouldPack (wsV RL 111 RX8 yX8_wouldPack wsX8_wouldPack) := goodIn_app (goodIn_of _ (by decide +kernel)) ggL_wouldPack_X8_wouldPack
theorem dL_wouldPack_0 : decode cL_wouldPack 0 = .ok (.aload_n 1, 1) := by decide +kernel
theorem dL_wouldPack_1 : decode cL_wouldPack 1 = .ok (.iconst 0, 1) := by decide +kernel
theorem dL_wouldPack_2 : decode cL_wouldPack 2 = .ok (.aload_n 0, 1) := by decide +kernel
theorem dL_wouldPack_3 : decode cL_wouldPack 3 = .ok (.invokevirtual 111, 3) := by decide +kernel
theorem dL_wouldPack_6 : decode cL_wouldPack 6 = .ok (.i2l, 1) := by decide +kernel
theorem dL_wouldPack_7 : decode cL_wouldPack 7 = .ok (.lastore, 1) := by decide +kernel
theorem dL_wouldPack_8 : decode cL_wouldPack 8 = .ok (.goto 6, 3) := by decide +kernel
theorem dL_wouldPack_11 : decode cL_wouldPack 11 = .ok (.astore_n 2, 1) := by decide +kernel
theorem dL_wouldPack_12 : decode cL_wouldPack 12 = .ok (.iconst 1, 1) := by decide +kernel
theorem dL_wouldPack_13 : decode cL_wouldPack 13 = .ok (.ireturn, 1) := by decide +kernel
theorem dL_wouldPack_14 : decode cL_wouldPack 14 = .ok (.iconst 0, 1) := by decide +kernel
theorem dL_wouldPack_15 : decode cL_wouldPack 15 = .ok (.ireturn, 1) := by decide +kernel
set_option maxRecDepth 20000 in
theorem ggL_sideWeight_X8_sideWeight : GoodIn wsL_sideWeight wsX8_sideWeight := goodIn_ca (goodIn_r _ [6, 7, 8, 9, 10, 5, 11, 12, 13, 14, 15, 16, 17, 18, 19, 20, 21, 22, 23, 24, 25, 26, 27, 28, 29, 30, 31, 32, 33, 34, 35, 36, 37, 38, 39, 40, 41, 42, 43, 44, 45, 46, 47, 48, 49] (by decide +kernel) (by decide +kernel)) (goodIn_sub (fun _ h => List.mem_cons_of_mem _ (List.mem_append_right _ h)) (by decide +kernel))
set_option maxRecDepth 20000 in
theorem gL_sideWeight_X8_sideWeight : GoodIn wsL_sideWeight (wsV RL 114 RX8 yX8_sideWeight wsX8_sideWeight) := goodIn_app (goodIn_of _ (by decide +kernel)) ggL_sideWeight_X8_sideWeight
theorem dL_sideWeight_0 : decode cL_sideWeight 0 = .ok (.aload_n 2, 1) := by decide +kernel
theorem dL_sideWeight_1 : decode cL_sideWeight 1 = .ok (.iconst 0, 1) := by decide +kernel
theorem dL_sideWeight_2 : decode cL_sideWeight 2 = .ok (.aload_n 0, 1) := by decide +kernel
theorem dL_sideWeight_3 : decode cL_sideWeight 3 = .ok (.iload_n 1, 1) := by decide +kernel
theorem dL_sideWeight_4 : decode cL_sideWeight 4 = .ok (.invokevirtual 114, 3) := by decide +kernel
theorem dL_sideWeight_7 : decode cL_sideWeight 7 = .ok (.i2l, 1) := by decide +kernel
theorem dL_sideWeight_8 : decode cL_sideWeight 8 = .ok (.lastore, 1) := by decide +kernel
theorem dL_sideWeight_9 : decode cL_sideWeight 9 = .ok (.goto 6, 3) := by decide +kernel
theorem dL_sideWeight_12 : decode cL_sideWeight 12 = .ok (.astore_n 3, 1) := by decide +kernel
theorem dL_sideWeight_13 : decode cL_sideWeight 13 = .ok (.iconst 1, 1) := by decide +kernel
theorem dL_sideWeight_14 : decode cL_sideWeight 14 = .ok (.ireturn, 1) := by decide +kernel
theorem dL_sideWeight_15 : decode cL_sideWeight 15 = .ok (.iconst 0, 1) := by decide +kernel
theorem dL_sideWeight_16 : decode cL_sideWeight 16 = .ok (.ireturn, 1) := by decide +kernel
set_option maxRecDepth 20000 in
theorem ggL_tripTicks_X8_tripTicks : GoodIn wsL_tripTicks wsX8_tripTicks := goodIn_ca (goodIn_r _ [6, 7, 8, 9, 10, 5, 11, 12, 13, 14, 15, 16, 17, 18, 19, 20, 21, 22, 23, 24, 25, 26, 27, 28, 29, 30, 31] (by decide +kernel) (by decide +kernel)) (goodIn_sub (fun _ h => List.mem_cons_of_mem _ (List.mem_append_right _ h)) (by decide +kernel))
set_option maxRecDepth 20000 in
theorem gL_tripTicks_X8_tripTicks : GoodIn wsL_tripTicks (wsV RL 117 RX8 yX8_tripTicks wsX8_tripTicks) := goodIn_app (goodIn_of _ (by decide +kernel)) ggL_tripTicks_X8_tripTicks
theorem dL_tripTicks_0 : decode cL_tripTicks 0 = .ok (.aload_n 2, 1) := by decide +kernel
theorem dL_tripTicks_1 : decode cL_tripTicks 1 = .ok (.iconst 0, 1) := by decide +kernel
theorem dL_tripTicks_2 : decode cL_tripTicks 2 = .ok (.aload_n 0, 1) := by decide +kernel
theorem dL_tripTicks_3 : decode cL_tripTicks 3 = .ok (.iload_n 1, 1) := by decide +kernel
theorem dL_tripTicks_4 : decode cL_tripTicks 4 = .ok (.invokevirtual 117, 3) := by decide +kernel
theorem dL_tripTicks_7 : decode cL_tripTicks 7 = .ok (.i2l, 1) := by decide +kernel
theorem dL_tripTicks_8 : decode cL_tripTicks 8 = .ok (.lastore, 1) := by decide +kernel
theorem dL_tripTicks_9 : decode cL_tripTicks 9 = .ok (.goto 6, 3) := by decide +kernel
theorem dL_tripTicks_12 : decode cL_tripTicks 12 = .ok (.astore_n 3, 1) := by decide +kernel
theorem dL_tripTicks_13 : decode cL_tripTicks 13 = .ok (.iconst 1, 1) := by decide +kernel
theorem dL_tripTicks_14 : decode cL_tripTicks 14 = .ok (.ireturn, 1) := by decide +kernel
theorem dL_tripTicks_15 : decode cL_tripTicks 15 = .ok (.iconst 0, 1) := by decide +kernel
theorem dL_tripTicks_16 : decode cL_tripTicks 16 = .ok (.ireturn, 1) := by decide +kernel
set_option maxRecDepth 20000 in
theorem ggL_wasFetch_X8_wasFetch : GoodIn wsL_wasFetch wsX8_wasFetch := goodIn_ca (goodIn_r _ [6, 7, 8, 9, 10, 5, 11, 12, 13, 14, 15, 16, 17, 18, 19, 20, 21, 22, 23, 24, 25, 26, 27, 28, 29, 30, 31] (by decide +kernel) (by decide +kernel)) (goodIn_sub (fun _ h => List.mem_cons_of_mem _ (List.mem_append_right _ h)) (by decide +kernel))
set_option maxRecDepth 20000 in
theorem gL_wasFetch_X8_wasFetch : GoodIn wsL_wasFetch (wsV RL 120 RX8 yX8_wasFetch wsX8_wasFetch) := goodIn_app (goodIn_of _ (by decide +kernel)) ggL_wasFetch_X8_wasFetch
theorem dL_wasFetch_0 : decode cL_wasFetch 0 = .ok (.aload_n 2, 1) := by decide +kernel
theorem dL_wasFetch_1 : decode cL_wasFetch 1 = .ok (.iconst 0, 1) := by decide +kernel
theorem dL_wasFetch_2 : decode cL_wasFetch 2 = .ok (.aload_n 0, 1) := by decide +kernel
theorem dL_wasFetch_3 : decode cL_wasFetch 3 = .ok (.iload_n 1, 1) := by decide +kernel
theorem dL_wasFetch_4 : decode cL_wasFetch 4 = .ok (.invokevirtual 120, 3) := by decide +kernel
theorem dL_wasFetch_7 : decode cL_wasFetch 7 = .ok (.ifCond .eq 7, 3) := by decide +kernel
theorem dL_wasFetch_10 : decode cL_wasFetch 10 = .ok (.lconst 1, 1) := by decide +kernel
theorem dL_wasFetch_11 : decode cL_wasFetch 11 = .ok (.goto 4, 3) := by decide +kernel
theorem dL_wasFetch_14 : decode cL_wasFetch 14 = .ok (.lconst 0, 1) := by decide +kernel
theorem dL_wasFetch_15 : decode cL_wasFetch 15 = .ok (.lastore, 1) := by decide +kernel
theorem dL_wasFetch_16 : decode cL_wasFetch 16 = .ok (.goto 6, 3) := by decide +kernel
theorem dL_wasFetch_19 : decode cL_wasFetch 19 = .ok (.astore_n 3, 1) := by decide +kernel
theorem dL_wasFetch_20 : decode cL_wasFetch 20 = .ok (.iconst 1, 1) := by decide +kernel
theorem dL_wasFetch_21 : decode cL_wasFetch 21 = .ok (.ireturn, 1) := by decide +kernel
theorem dL_wasFetch_22 : decode cL_wasFetch 22 = .ok (.iconst 0, 1) := by decide +kernel
theorem dL_wasFetch_23 : decode cL_wasFetch 23 = .ok (.ireturn, 1) := by decide +kernel
set_option maxRecDepth 20000 in
theorem ggL_weightOfKind_X8_weightOfKind : GoodIn wsL_weightOfKind wsX8_weightOfKind := goodIn_ca (goodIn_r _ [6, 7, 8, 9, 10, 5, 11, 12, 13, 14, 15, 16, 17, 18, 19, 20, 21, 22, 23, 24, 25, 26, 27, 28] (by decide +kernel) (by decide +kernel)) (goodIn_sub (fun _ h => List.mem_cons_of_mem _ (List.mem_append_right _ h)) (by decide +kernel))
set_option maxRecDepth 20000 in
theorem gL_weightOfKind_X8_weightOfKind : GoodIn wsL_weightOfKind (wsV RL 123 RX8 yX8_weightOfKind wsX8_weightOfKind) := goodIn_app (goodIn_of _ (by decide +kernel)) ggL_weightOfKind_X8_weightOfKind
theorem dL_weightOfKind_0 : decode cL_weightOfKind 0 = .ok (.aload_n 2, 1) := by decide +kernel
theorem dL_weightOfKind_1 : decode cL_weightOfKind 1 = .ok (.iconst 0, 1) := by decide +kernel
theorem dL_weightOfKind_2 : decode cL_weightOfKind 2 = .ok (.aload_n 0, 1) := by decide +kernel
theorem dL_weightOfKind_3 : decode cL_weightOfKind 3 = .ok (.iload_n 1, 1) := by decide +kernel
theorem dL_weightOfKind_4 : decode cL_weightOfKind 4 = .ok (.invokevirtual 123, 3) := by decide +kernel
theorem dL_weightOfKind_7 : decode cL_weightOfKind 7 = .ok (.i2l, 1) := by decide +kernel
theorem dL_weightOfKind_8 : decode cL_weightOfKind 8 = .ok (.lastore, 1) := by decide +kernel
theorem dL_weightOfKind_9 : decode cL_weightOfKind 9 = .ok (.goto 6, 3) := by decide +kernel
theorem dL_weightOfKind_12 : decode cL_weightOfKind 12 = .ok (.astore_n 3, 1) := by decide +kernel
theorem dL_weightOfKind_13 : decode cL_weightOfKind 13 = .ok (.iconst 1, 1) := by decide +kernel
theorem dL_weightOfKind_14 : decode cL_weightOfKind 14 = .ok (.ireturn, 1) := by decide +kernel
theorem dL_weightOfKind_15 : decode cL_weightOfKind 15 = .ok (.iconst 0, 1) := by decide +kernel
theorem dL_weightOfKind_16 : decode cL_weightOfKind 16 = .ok (.ireturn, 1) := by decide +kernel
set_option maxRecDepth 20000 in
theorem ggL_stockByShelves_X8_stockByShelves : GoodIn wsL_stockByShelves wsX8_stockByShelves := goodIn_ca (goodIn_r _ [6, 7, 8, 9, 10, 5, 11, 12, 13, 14, 15, 16, 17, 18, 19, 20, 21, 22, 23, 24, 25, 26, 27, 28, 29, 30, 31, 32, 33, 34, 35, 36, 37, 38, 39, 40] (by decide +kernel) (by decide +kernel)) (goodIn_sub (fun _ h => List.mem_cons_of_mem _ (List.mem_append_right _ h)) (by decide +kernel))
set_option maxRecDepth 20000 in
theorem gL_stockByShelves_X8_stockByShelves : GoodIn wsL_stockByShelves (wsV RL 126 RX8 yX8_stockByShelves wsX8_stockByShelves) := goodIn_app (goodIn_of _ (by decide +kernel)) ggL_stockByShelves_X8_stockByShelves
theorem dL_stockByShelves_0 : decode cL_stockByShelves 0 = .ok (.aload_n 2, 1) := by decide +kernel
theorem dL_stockByShelves_1 : decode cL_stockByShelves 1 = .ok (.iconst 0, 1) := by decide +kernel
theorem dL_stockByShelves_2 : decode cL_stockByShelves 2 = .ok (.aload_n 0, 1) := by decide +kernel
theorem dL_stockByShelves_3 : decode cL_stockByShelves 3 = .ok (.iload_n 1, 1) := by decide +kernel
theorem dL_stockByShelves_4 : decode cL_stockByShelves 4 = .ok (.invokevirtual 126, 3) := by decide +kernel
theorem dL_stockByShelves_7 : decode cL_stockByShelves 7 = .ok (.i2l, 1) := by decide +kernel
theorem dL_stockByShelves_8 : decode cL_stockByShelves 8 = .ok (.lastore, 1) := by decide +kernel
theorem dL_stockByShelves_9 : decode cL_stockByShelves 9 = .ok (.goto 6, 3) := by decide +kernel
theorem dL_stockByShelves_12 : decode cL_stockByShelves 12 = .ok (.astore_n 3, 1) := by decide +kernel
theorem dL_stockByShelves_13 : decode cL_stockByShelves 13 = .ok (.iconst 1, 1) := by decide +kernel
theorem dL_stockByShelves_14 : decode cL_stockByShelves 14 = .ok (.ireturn, 1) := by decide +kernel
theorem dL_stockByShelves_15 : decode cL_stockByShelves 15 = .ok (.iconst 0, 1) := by decide +kernel
theorem dL_stockByShelves_16 : decode cL_stockByShelves 16 = .ok (.ireturn, 1) := by decide +kernel
set_option maxRecDepth 20000 in
theorem ggL_stockByAccount_X8_stockByAccount : GoodIn wsL_stockByAccount wsX8_stockByAccount := goodIn_ca (goodIn_r _ [6, 7, 8, 9, 10, 5, 11, 12, 13, 14, 15, 16, 17, 18, 19, 20, 21, 22, 23, 24, 25, 26, 27, 28] (by decide +kernel) (by decide +kernel)) (goodIn_sub (fun _ h => List.mem_cons_of_mem _ (List.mem_append_right _ h)) (by decide +kernel))
set_option maxRecDepth 20000 in
theorem gL_stockByAccount_X8_stockByAccount : GoodIn wsL_stockByAccount (wsV RL 129 RX8 yX8_stockByAccount wsX8_stockByAccount) := goodIn_app (goodIn_of _ (by decide +kernel)) ggL_stockByAccount_X8_stockByAccount
theorem dL_stockByAccount_0 : decode cL_stockByAccount 0 = .ok (.aload_n 2, 1) := by decide +kernel
theorem dL_stockByAccount_1 : decode cL_stockByAccount 1 = .ok (.iconst 0, 1) := by decide +kernel
theorem dL_stockByAccount_2 : decode cL_stockByAccount 2 = .ok (.aload_n 0, 1) := by decide +kernel
theorem dL_stockByAccount_3 : decode cL_stockByAccount 3 = .ok (.iload_n 1, 1) := by decide +kernel
theorem dL_stockByAccount_4 : decode cL_stockByAccount 4 = .ok (.invokevirtual 129, 3) := by decide +kernel
theorem dL_stockByAccount_7 : decode cL_stockByAccount 7 = .ok (.i2l, 1) := by decide +kernel
theorem dL_stockByAccount_8 : decode cL_stockByAccount 8 = .ok (.lastore, 1) := by decide +kernel
theorem dL_stockByAccount_9 : decode cL_stockByAccount 9 = .ok (.goto 6, 3) := by decide +kernel
theorem dL_stockByAccount_12 : decode cL_stockByAccount 12 = .ok (.astore_n 3, 1) := by decide +kernel
theorem dL_stockByAccount_13 : decode cL_stockByAccount 13 = .ok (.iconst 1, 1) := by decide +kernel
theorem dL_stockByAccount_14 : decode cL_stockByAccount 14 = .ok (.ireturn, 1) := by decide +kernel
theorem dL_stockByAccount_15 : decode cL_stockByAccount 15 = .ok (.iconst 0, 1) := by decide +kernel
theorem dL_stockByAccount_16 : decode cL_stockByAccount 16 = .ok (.ireturn, 1) := by decide +kernel
set_option maxRecDepth 20000 in
theorem ggL_shelvesWith_X8_shelvesWith : GoodIn wsL_shelvesWith wsX8_shelvesWith := goodIn_ca (goodIn_r _ [6, 7, 8, 9, 10, 5, 11, 12, 13, 14, 15, 16, 17, 18, 19, 20, 21, 22, 23, 24, 25, 26, 27, 28, 29, 30, 31, 32, 33, 34, 35, 36, 37, 38, 39, 40] (by decide +kernel) (by decide +kernel)) (goodIn_sub (fun _ h => List.mem_cons_of_mem _ (List.mem_append_right _ h)) (by decide +kernel))
set_option maxRecDepth 20000 in
theorem gL_shelvesWith_X8_shelvesWith : GoodIn wsL_shelvesWith (wsV RL 132 RX8 yX8_shelvesWith wsX8_shelvesWith) := goodIn_app (goodIn_of _ (by decide +kernel)) ggL_shelvesWith_X8_shelvesWith
theorem dL_shelvesWith_0 : decode cL_shelvesWith 0 = .ok (.aload_n 2, 1) := by decide +kernel
theorem dL_shelvesWith_1 : decode cL_shelvesWith 1 = .ok (.iconst 0, 1) := by decide +kernel
theorem dL_shelvesWith_2 : decode cL_shelvesWith 2 = .ok (.aload_n 0, 1) := by decide +kernel
theorem dL_shelvesWith_3 : decode cL_shelvesWith 3 = .ok (.iload_n 1, 1) := by decide +kernel
theorem dL_shelvesWith_4 : decode cL_shelvesWith 4 = .ok (.invokevirtual 132, 3) := by decide +kernel
theorem dL_shelvesWith_7 : decode cL_shelvesWith 7 = .ok (.i2l, 1) := by decide +kernel
theorem dL_shelvesWith_8 : decode cL_shelvesWith 8 = .ok (.lastore, 1) := by decide +kernel
theorem dL_shelvesWith_9 : decode cL_shelvesWith 9 = .ok (.goto 6, 3) := by decide +kernel
theorem dL_shelvesWith_12 : decode cL_shelvesWith 12 = .ok (.astore_n 3, 1) := by decide +kernel
theorem dL_shelvesWith_13 : decode cL_shelvesWith 13 = .ok (.iconst 1, 1) := by decide +kernel
theorem dL_shelvesWith_14 : decode cL_shelvesWith 14 = .ok (.ireturn, 1) := by decide +kernel
theorem dL_shelvesWith_15 : decode cL_shelvesWith 15 = .ok (.iconst 0, 1) := by decide +kernel
theorem dL_shelvesWith_16 : decode cL_shelvesWith 16 = .ok (.ireturn, 1) := by decide +kernel
set_option maxRecDepth 20000 in
theorem ggL_leastOf_X8_leastOf : GoodIn wsL_leastOf wsX8_leastOf := goodIn_ca (goodIn_r _ [6, 7, 8, 9, 10, 5, 11, 12, 13, 14, 15, 16, 17, 18, 19, 20, 21, 22, 23, 24, 25, 26, 27, 28] (by decide +kernel) (by decide +kernel)) (goodIn_sub (fun _ h => List.mem_cons_of_mem _ (List.mem_append_right _ h)) (by decide +kernel))
set_option maxRecDepth 20000 in
theorem gL_leastOf_X8_leastOf : GoodIn wsL_leastOf (wsV RL 135 RX8 yX8_leastOf wsX8_leastOf) := goodIn_app (goodIn_of _ (by decide +kernel)) ggL_leastOf_X8_leastOf
theorem dL_leastOf_0 : decode cL_leastOf 0 = .ok (.aload_n 2, 1) := by decide +kernel
theorem dL_leastOf_1 : decode cL_leastOf 1 = .ok (.iconst 0, 1) := by decide +kernel
theorem dL_leastOf_2 : decode cL_leastOf 2 = .ok (.aload_n 0, 1) := by decide +kernel
theorem dL_leastOf_3 : decode cL_leastOf 3 = .ok (.iload_n 1, 1) := by decide +kernel
theorem dL_leastOf_4 : decode cL_leastOf 4 = .ok (.invokevirtual 135, 3) := by decide +kernel
theorem dL_leastOf_7 : decode cL_leastOf 7 = .ok (.i2l, 1) := by decide +kernel
theorem dL_leastOf_8 : decode cL_leastOf 8 = .ok (.lastore, 1) := by decide +kernel
theorem dL_leastOf_9 : decode cL_leastOf 9 = .ok (.goto 6, 3) := by decide +kernel
theorem dL_leastOf_12 : decode cL_leastOf 12 = .ok (.astore_n 3, 1) := by decide +kernel
theorem dL_leastOf_13 : decode cL_leastOf 13 = .ok (.iconst 1, 1) := by decide +kernel
theorem dL_leastOf_14 : decode cL_leastOf 14 = .ok (.ireturn, 1) := by decide +kernel
theorem dL_leastOf_15 : decode cL_leastOf 15 = .ok (.iconst 0, 1) := by decide +kernel
theorem dL_leastOf_16 : decode cL_leastOf 16 = .ok (.ireturn, 1) := by decide +kernel
set_option maxRecDepth 20000 in
theorem ggL_missingOf_X8_missingOf : GoodIn wsL_missingOf wsX8_missingOf := goodIn_ca (goodIn_r _ [6, 7, 8, 9, 10, 5, 11, 12, 13, 14, 15, 16, 17, 18, 19, 20, 21, 22, 23, 24, 25, 26, 27, 28, 29, 30, 31, 32, 33, 34, 35, 36, 37, 38, 39, 40, 41, 42, 43, 44, 45, 46, 47, 48, 49, 50, 51, 52, 53, 54] (by decide +kernel) (by decide +kernel)) (goodIn_sub (fun _ h => List.mem_cons_of_mem _ (List.mem_append_right _ h)) (by decide +kernel))
set_option maxRecDepth 20000 in
theorem gL_missingOf_X8_missingOf : GoodIn wsL_missingOf (wsV RL 138 RX8 yX8_missingOf wsX8_missingOf) := goodIn_app (goodIn_of _ (by decide +kernel)) ggL_missingOf_X8_missingOf
theorem dL_missingOf_0 : decode cL_missingOf 0 = .ok (.aload_n 2, 1) := by decide +kernel
theorem dL_missingOf_1 : decode cL_missingOf 1 = .ok (.iconst 0, 1) := by decide +kernel
theorem dL_missingOf_2 : decode cL_missingOf 2 = .ok (.aload_n 0, 1) := by decide +kernel
theorem dL_missingOf_3 : decode cL_missingOf 3 = .ok (.iload_n 1, 1) := by decide +kernel
theorem dL_missingOf_4 : decode cL_missingOf 4 = .ok (.invokevirtual 138, 3) := by decide +kernel
theorem dL_missingOf_7 : decode cL_missingOf 7 = .ok (.i2l, 1) := by decide +kernel
theorem dL_missingOf_8 : decode cL_missingOf 8 = .ok (.lastore, 1) := by decide +kernel
theorem dL_missingOf_9 : decode cL_missingOf 9 = .ok (.goto 6, 3) := by decide +kernel
theorem dL_missingOf_12 : decode cL_missingOf 12 = .ok (.astore_n 3, 1) := by decide +kernel
theorem dL_missingOf_13 : decode cL_missingOf 13 = .ok (.iconst 1, 1) := by decide +kernel
theorem dL_missingOf_14 : decode cL_missingOf 14 = .ok (.ireturn, 1) := by decide +kernel
theorem dL_missingOf_15 : decode cL_missingOf 15 = .ok (.iconst 0, 1) := by decide +kernel
theorem dL_missingOf_16 : decode cL_missingOf 16 = .ok (.ireturn, 1) := by decide +kernel
set_option maxRecDepth 20000 in
theorem ggL_wanted_X8_wanted : GoodIn wsL_wanted wsX8_wanted := goodIn_ca (goodIn_r _ [6, 7, 8, 9, 10, 5, 11, 12, 13, 14, 15, 16, 17, 18, 19, 20, 21, 22, 23, 24, 25, 26, 27, 28, 29, 30, 31, 32, 33, 34, 35] (by decide +kernel) (by decide +kernel)) (goodIn_sub (fun _ h => List.mem_cons_of_mem _ (List.mem_append_right _ h)) (by decide +kernel))
set_option maxRecDepth 20000 in
theorem gL_wanted_X8_wanted : GoodIn wsL_wanted (wsV RL 141 RX8 yX8_wanted wsX8_wanted) := goodIn_app (goodIn_of _ (by decide +kernel)) ggL_wanted_X8_wanted
theorem dL_wanted_0 : decode cL_wanted 0 = .ok (.aload_n 3, 1) := by decide +kernel
theorem dL_wanted_1 : decode cL_wanted 1 = .ok (.iconst 0, 1) := by decide +kernel
theorem dL_wanted_2 : decode cL_wanted 2 = .ok (.aload_n 0, 1) := by decide +kernel
theorem dL_wanted_3 : decode cL_wanted 3 = .ok (.iload_n 1, 1) := by decide +kernel
theorem dL_wanted_4 : decode cL_wanted 4 = .ok (.iload_n 2, 1) := by decide +kernel
theorem dL_wanted_5 : decode cL_wanted 5 = .ok (.invokevirtual 141, 3) := by decide +kernel
theorem dL_wanted_8 : decode cL_wanted 8 = .ok (.i2l, 1) := by decide +kernel
theorem dL_wanted_9 : decode cL_wanted 9 = .ok (.lastore, 1) := by decide +kernel
theorem dL_wanted_10 : decode cL_wanted 10 = .ok (.goto 7, 3) := by decide +kernel
theorem dL_wanted_13 : decode cL_wanted 13 = .ok (.astore 4, 2) := by decide +kernel
theorem dL_wanted_15 : decode cL_wanted 15 = .ok (.iconst 1, 1) := by decide +kernel
theorem dL_wanted_16 : decode cL_wanted 16 = .ok (.ireturn, 1) := by decide +kernel
theorem dL_wanted_17 : decode cL_wanted 17 = .ok (.iconst 0, 1) := by decide +kernel
theorem dL_wanted_18 : decode cL_wanted 18 = .ok (.ireturn, 1) := by decide +kernel
set_option maxRecDepth 20000 in
theorem ggL_thingsOf_X8_thingsOf : GoodIn wsL_thingsOf wsX8_thingsOf := goodIn_ca (goodIn_r _ [6, 7, 8, 9, 10, 5, 11, 12, 13, 14, 15, 16, 17, 18, 19, 20, 21, 22, 23, 24, 25, 26, 27, 28, 29, 30, 31, 32, 33, 34, 35] (by decide +kernel) (by decide +kernel)) (goodIn_sub (fun _ h => List.mem_cons_of_mem _ (List.mem_append_right _ h)) (by decide +kernel))
set_option maxRecDepth 20000 in
theorem gL_thingsOf_X8_thingsOf : GoodIn wsL_thingsOf (wsV RL 144 RX8 yX8_thingsOf wsX8_thingsOf) := goodIn_app (goodIn_of _ (by decide +kernel)) ggL_thingsOf_X8_thingsOf
theorem dL_thingsOf_0 : decode cL_thingsOf 0 = .ok (.aload_n 2, 1) := by decide +kernel
theorem dL_thingsOf_1 : decode cL_thingsOf 1 = .ok (.iconst 0, 1) := by decide +kernel
theorem dL_thingsOf_2 : decode cL_thingsOf 2 = .ok (.aload_n 0, 1) := by decide +kernel
theorem dL_thingsOf_3 : decode cL_thingsOf 3 = .ok (.iload_n 1, 1) := by decide +kernel
theorem dL_thingsOf_4 : decode cL_thingsOf 4 = .ok (.invokevirtual 144, 3) := by decide +kernel
theorem dL_thingsOf_7 : decode cL_thingsOf 7 = .ok (.i2l, 1) := by decide +kernel
theorem dL_thingsOf_8 : decode cL_thingsOf 8 = .ok (.lastore, 1) := by decide +kernel
theorem dL_thingsOf_9 : decode cL_thingsOf 9 = .ok (.goto 6, 3) := by decide +kernel
theorem dL_thingsOf_12 : decode cL_thingsOf 12 = .ok (.astore_n 3, 1) := by decide +kernel
theorem dL_thingsOf_13 : decode cL_thingsOf 13 = .ok (.iconst 1, 1) := by decide +kernel
theorem dL_thingsOf_14 : decode cL_thingsOf 14 = .ok (.ireturn, 1) := by decide +kernel
theorem dL_thingsOf_15 : decode cL_thingsOf 15 = .ok (.iconst 0, 1) := by decide +kernel
theorem dL_thingsOf_16 : decode cL_thingsOf 16 = .ok (.ireturn, 1) := by decide +kernel
set_option maxRecDepth 20000 in
theorem ggL_canServe_X8_canServe : GoodIn wsL_canServe wsX8_canServe := goodIn_ca (goodIn_r _ [6, 7, 8, 9, 10, 5, 11, 12, 13, 14, 15, 16, 17, 18, 19, 20, 21, 22, 23, 24, 25, 26, 27, 28, 29, 30, 31, 32, 33, 34, 35, 36, 37, 38, 39, 40, 41, 42, 43, 44, 45, 46, 47, 48, 49, 50, 51, 52] (by decide +kernel) (by decide +kernel)) (goodIn_sub (fun _ h => List.mem_cons_of_mem _ (List.mem_append_right _ h)) (by decide +kernel))
set_option maxRecDepth 20000 in
theorem gL_canServe_X8_canServe : GoodIn wsL_canServe (wsV RL 147 RX8 yX8_canServe wsX8_canServe) := goodIn_app (goodIn_of _ (by decide +kernel)) ggL_canServe_X8_canServe
theorem dL_canServe_0 : decode cL_canServe 0 = .ok (.aload_n 2, 1) := by decide +kernel
theorem dL_canServe_1 : decode cL_canServe 1 = .ok (.iconst 0, 1) := by decide +kernel
theorem dL_canServe_2 : decode cL_canServe 2 = .ok (.aload_n 0, 1) := by decide +kernel
theorem dL_canServe_3 : decode cL_canServe 3 = .ok (.iload_n 1, 1) := by decide +kernel
theorem dL_canServe_4 : decode cL_canServe 4 = .ok (.invokevirtual 147, 3) := by decide +kernel
theorem dL_canServe_7 : decode cL_canServe 7 = .ok (.ifCond .eq 7, 3) := by decide +kernel
theorem dL_canServe_10 : decode cL_canServe 10 = .ok (.lconst 1, 1) := by decide +kernel
theorem dL_canServe_11 : decode cL_canServe 11 = .ok (.goto 4, 3) := by decide +kernel
theorem dL_canServe_14 : decode cL_canServe 14 = .ok (.lconst 0, 1) := by decide +kernel
theorem dL_canServe_15 : decode cL_canServe 15 = .ok (.lastore, 1) := by decide +kernel
theorem dL_canServe_16 : decode cL_canServe 16 = .ok (.goto 6, 3) := by decide +kernel
theorem dL_canServe_19 : decode cL_canServe 19 = .ok (.astore_n 3, 1) := by decide +kernel
theorem dL_canServe_20 : decode cL_canServe 20 = .ok (.iconst 1, 1) := by decide +kernel
theorem dL_canServe_21 : decode cL_canServe 21 = .ok (.ireturn, 1) := by decide +kernel
theorem dL_canServe_22 : decode cL_canServe 22 = .ok (.iconst 0, 1) := by decide +kernel
theorem dL_canServe_23 : decode cL_canServe 23 = .ok (.ireturn, 1) := by decide +kernel
set_option maxRecDepth 20000 in
theorem ggL_fewestByTrying_X8_fewestByTrying : GoodIn wsL_fewestByTrying wsX8_fewestByTrying := goodIn_ca (goodIn_ca (goodIn_r _ [7, 8, 9, 10, 11, 6, 12, 13, 14, 15, 16, 17, 18, 19, 20, 21, 22, 23, 24, 25, 26, 27, 28, 29, 30, 31, 32, 33, 34, 35, 36, 37, 38, 39, 40, 41, 42, 43, 44, 45, 46, 47, 48, 49, 50, 51, 52, 53, 54, 55, 56, 57, 58, 59, 60, 61, 62, 63, 64, 65, 66, 67, 68, 69, 70, 71, 72, 73, 74] (by decide +kernel) (by decide +kernel)) (goodIn_sub (fun _ h => List.mem_cons_of_mem _ (List.mem_append_left _ (List.mem_append_right _ h))) (by decide +kernel))) (goodIn_sub (fun _ h => List.mem_cons_of_mem _ (List.mem_append_right _ h)) (by decide +kernel))
set_option maxRecDepth 20000 in
theorem gL_fewestByTrying_X8_fewestByTrying : GoodIn wsL_fewestByTrying (wsV RL 150 RX8 yX8_fewestByTrying wsX8_fewestByTrying) := goodIn_app (goodIn_of _ (by decide +kernel)) ggL_fewestByTrying_X8_fewestByTrying
theorem dL_fewestByTrying_0 : decode cL_fewestByTrying 0 = .ok (.aload_n 2, 1) := by decide +kernel
theorem dL_fewestByTrying_1 : decode cL_fewestByTrying 1 = .ok (.iconst 0, 1) := by decide +kernel
theorem dL_fewestByTrying_2 : decode cL_fewestByTrying 2 = .ok (.aload_n 0, 1) := by decide +kernel
theorem dL_fewestByTrying_3 : decode cL_fewestByTrying 3 = .ok (.iload_n 1, 1) := by decide +kernel
theorem dL_fewestByTrying_4 : decode cL_fewestByTrying 4 = .ok (.invokevirtual 150, 3) := by decide +kernel
theorem dL_fewestByTrying_7 : decode cL_fewestByTrying 7 = .ok (.i2l, 1) := by decide +kernel
theorem dL_fewestByTrying_8 : decode cL_fewestByTrying 8 = .ok (.lastore, 1) := by decide +kernel
theorem dL_fewestByTrying_9 : decode cL_fewestByTrying 9 = .ok (.goto 9, 3) := by decide +kernel
theorem dL_fewestByTrying_12 : decode cL_fewestByTrying 12 = .ok (.astore_n 3, 1) := by decide +kernel
theorem dL_fewestByTrying_13 : decode cL_fewestByTrying 13 = .ok (.iconst 1, 1) := by decide +kernel
theorem dL_fewestByTrying_14 : decode cL_fewestByTrying 14 = .ok (.ireturn, 1) := by decide +kernel
theorem dL_fewestByTrying_15 : decode cL_fewestByTrying 15 = .ok (.astore_n 3, 1) := by decide +kernel
theorem dL_fewestByTrying_16 : decode cL_fewestByTrying 16 = .ok (.iconst 2, 1) := by decide +kernel
theorem dL_fewestByTrying_17 : decode cL_fewestByTrying 17 = .ok (.ireturn, 1) := by decide +kernel
theorem dL_fewestByTrying_18 : decode cL_fewestByTrying 18 = .ok (.iconst 0, 1) := by decide +kernel
theorem dL_fewestByTrying_19 : decode cL_fewestByTrying 19 = .ok (.ireturn, 1) := by decide +kernel
set_option maxRecDepth 20000 in
theorem ggL_fewestByGoing_X8_fewestByGoing : GoodIn wsL_fewestByGoing wsX8_fewestByGoing := goodIn_ca (goodIn_ca (goodIn_r _ [7, 8, 9, 10, 6, 11, 12, 13, 14, 15, 16, 17, 18, 19, 20, 21, 22, 23, 24, 25, 26, 27, 28, 29, 30, 31, 32, 33, 34, 35, 36, 37, 38, 39, 40, 41, 42, 43, 44, 45, 46, 47, 48, 49, 50, 51, 52, 53, 54, 55, 56, 57, 58, 59, 60, 61, 62, 63, 64, 65, 66, 67, 68, 69, 70, 71, 72, 73, 74, 75, 76, 77] (by decide +kernel) (by decide +kernel)) (goodIn_sub (fun _ h => List.mem_cons_of_mem _ (List.mem_append_left _ (List.mem_append_right _ h))) (by decide +kernel))) (goodIn_sub (fun _ h => List.mem_cons_of_mem _ (List.mem_append_right _ h)) (by decide +kernel))
set_option maxRecDepth 20000 in
theorem gL_fewestByGoing_X8_fewestByGoing : GoodIn wsL_fewestByGoing (wsV RL 153 RX8 yX8_fewestByGoing wsX8_fewestByGoing) := goodIn_app (goodIn_of _ (by decide +kernel)) ggL_fewestByGoing_X8_fewestByGoing
theorem dL_fewestByGoing_0 : decode cL_fewestByGoing 0 = .ok (.aload_n 2, 1) := by decide +kernel
theorem dL_fewestByGoing_1 : decode cL_fewestByGoing 1 = .ok (.iconst 0, 1) := by decide +kernel
theorem dL_fewestByGoing_2 : decode cL_fewestByGoing 2 = .ok (.aload_n 0, 1) := by decide +kernel
theorem dL_fewestByGoing_3 : decode cL_fewestByGoing 3 = .ok (.iload_n 1, 1) := by decide +kernel
theorem dL_fewestByGoing_4 : decode cL_fewestByGoing 4 = .ok (.invokevirtual 153, 3) := by decide +kernel
theorem dL_fewestByGoing_7 : decode cL_fewestByGoing 7 = .ok (.i2l, 1) := by decide +kernel
theorem dL_fewestByGoing_8 : decode cL_fewestByGoing 8 = .ok (.lastore, 1) := by decide +kernel
theorem dL_fewestByGoing_9 : decode cL_fewestByGoing 9 = .ok (.goto 9, 3) := by decide +kernel
theorem dL_fewestByGoing_12 : decode cL_fewestByGoing 12 = .ok (.astore_n 3, 1) := by decide +kernel
theorem dL_fewestByGoing_13 : decode cL_fewestByGoing 13 = .ok (.iconst 1, 1) := by decide +kernel
theorem dL_fewestByGoing_14 : decode cL_fewestByGoing 14 = .ok (.ireturn, 1) := by decide +kernel
theorem dL_fewestByGoing_15 : decode cL_fewestByGoing 15 = .ok (.astore_n 3, 1) := by decide +kernel
theorem dL_fewestByGoing_16 : decode cL_fewestByGoing 16 = .ok (.iconst 2, 1) := by decide +kernel
theorem dL_fewestByGoing_17 : decode cL_fewestByGoing 17 = .ok (.ireturn, 1) := by decide +kernel
theorem dL_fewestByGoing_18 : decode cL_fewestByGoing 18 = .ok (.iconst 0, 1) := by decide +kernel
theorem dL_fewestByGoing_19 : decode cL_fewestByGoing 19 = .ok (.ireturn, 1) := by decide +kernel
set_option maxRecDepth 20000 in
theorem ggL_choiceFor_X8_choiceFor : GoodIn wsL_choiceFor wsX8_choiceFor := goodIn_ca (goodIn_ca (goodIn_r _ [7, 8, 9, 10, 11, 6, 12, 13, 14, 15, 16, 17, 18, 19, 20, 21, 22, 23, 24, 25, 26, 27, 28, 29, 30, 31, 32, 33, 34, 35, 36, 37, 38, 39, 40, 41, 42, 43, 44, 45, 46, 47, 48, 49, 50, 51, 52, 53, 54, 55, 56, 57, 58, 59, 60, 61, 62, 63, 64, 65, 66, 67, 68, 69, 70, 71, 72, 73] (by decide +kernel) (by decide +kernel)) (goodIn_sub (fun _ h => List.mem_cons_of_mem _ (List.mem_append_left _ (List.mem_append_right _ h))) (by decide +kernel))) (goodIn_sub (fun _ h => List.mem_cons_of_mem _ (List.mem_append_right _ h)) (by decide +kernel))
set_option maxRecDepth 20000 in
theorem gL_choiceFor_X8_choiceFor : GoodIn wsL_choiceFor (wsV RL 156 RX8 yX8_choiceFor wsX8_choiceFor) := goodIn_app (goodIn_of _ (by decide +kernel)) ggL_choiceFor_X8_choiceFor
theorem dL_choiceFor_0 : decode cL_choiceFor 0 = .ok (.aload_n 2, 1) := by decide +kernel
theorem dL_choiceFor_1 : decode cL_choiceFor 1 = .ok (.iconst 0, 1) := by decide +kernel
theorem dL_choiceFor_2 : decode cL_choiceFor 2 = .ok (.aload_n 0, 1) := by decide +kernel
theorem dL_choiceFor_3 : decode cL_choiceFor 3 = .ok (.iload_n 1, 1) := by decide +kernel
theorem dL_choiceFor_4 : decode cL_choiceFor 4 = .ok (.invokevirtual 156, 3) := by decide +kernel
theorem dL_choiceFor_7 : decode cL_choiceFor 7 = .ok (.i2l, 1) := by decide +kernel
theorem dL_choiceFor_8 : decode cL_choiceFor 8 = .ok (.lastore, 1) := by decide +kernel
theorem dL_choiceFor_9 : decode cL_choiceFor 9 = .ok (.goto 9, 3) := by decide +kernel
theorem dL_choiceFor_12 : decode cL_choiceFor 12 = .ok (.astore_n 3, 1) := by decide +kernel
theorem dL_choiceFor_13 : decode cL_choiceFor 13 = .ok (.iconst 1, 1) := by decide +kernel
theorem dL_choiceFor_14 : decode cL_choiceFor 14 = .ok (.ireturn, 1) := by decide +kernel
theorem dL_choiceFor_15 : decode cL_choiceFor 15 = .ok (.astore_n 3, 1) := by decide +kernel
theorem dL_choiceFor_16 : decode cL_choiceFor 16 = .ok (.iconst 2, 1) := by decide +kernel
theorem dL_choiceFor_17 : decode cL_choiceFor 17 = .ok (.ireturn, 1) := by decide +kernel
theorem dL_choiceFor_18 : decode cL_choiceFor 18 = .ok (.iconst 0, 1) := by decide +kernel
theorem dL_choiceFor_19 : decode cL_choiceFor 19 = .ok (.ireturn, 1) := by decide +kernel
set_option maxRecDepth 20000 in
theorem ggL_ticksByServing_X8_ticksByServing : GoodIn wsL_ticksByServing wsX8_ticksByServing := goodIn_ca (goodIn_ca (goodIn_r _ [7, 8, 9, 10, 11, 12, 6, 13, 14, 15, 16, 17, 18, 19, 20, 21, 22, 23, 24, 25, 26, 27, 28, 29, 30, 31, 32, 33, 34, 35, 36, 37, 38, 39, 40, 41, 42, 43, 44, 45, 46, 47, 48, 49, 50, 51, 52, 53, 54, 55, 56, 57, 58, 59, 60, 61, 62, 63, 64, 65, 66, 67, 68, 69, 70, 71, 72, 73, 74, 75, 76, 77, 78, 79, 80, 81, 82, 83, 84, 85, 86, 87, 88, 89, 90, 91, 92, 93, 94, 95, 96, 97, 98, 99, 100, 101, 102, 103, 104, 105, 106, 107, 108, 109, 110, 111, 112, 113, 114, 115, 116, 117, 118, 119, 120, 121, 122, 123, 124, 125, 126, 127, 128, 129, 130, 131, 132, 133, 134, 135, 136, 137, 138, 139, 140, 141, 142, 143, 144, 145, 146, 147, 148, 149, 150, 151, 152, 153, 154, 155, 156, 157, 158, 159, 160, 161, 162, 163, 164, 165, 166, 167, 168, 169, 170, 171, 172, 173, 174, 175, 176, 177, 178, 179, 180, 181, 182, 183, 184, 185, 186, 187, 188, 189, 190, 191] (by decide +kernel) (by decide +kernel)) (goodIn_sub (fun _ h => List.mem_cons_of_mem _ (List.mem_append_left _ (List.mem_append_right _ h))) (by decide +kernel))) (goodIn_sub (fun _ h => List.mem_cons_of_mem _ (List.mem_append_right _ h)) (by decide +kernel))
set_option maxRecDepth 20000 in
theorem gL_ticksByServing_X8_ticksByServing : GoodIn wsL_ticksByServing (wsV RL 159 RX8 yX8_ticksByServing wsX8_ticksByServing) := goodIn_app (goodIn_of _ (by decide +kernel)) ggL_ticksByServing_X8_ticksByServing
theorem dL_ticksByServing_0 : decode cL_ticksByServing 0 = .ok (.aload_n 2, 1) := by decide +kernel
theorem dL_ticksByServing_1 : decode cL_ticksByServing 1 = .ok (.iconst 0, 1) := by decide +kernel
theorem dL_ticksByServing_2 : decode cL_ticksByServing 2 = .ok (.aload_n 0, 1) := by decide +kernel
theorem dL_ticksByServing_3 : decode cL_ticksByServing 3 = .ok (.iload_n 1, 1) := by decide +kernel
theorem dL_ticksByServing_4 : decode cL_ticksByServing 4 = .ok (.invokevirtual 159, 3) := by decide +kernel
theorem dL_ticksByServing_7 : decode cL_ticksByServing 7 = .ok (.i2l, 1) := by decide +kernel
theorem dL_ticksByServing_8 : decode cL_ticksByServing 8 = .ok (.lastore, 1) := by decide +kernel
theorem dL_ticksByServing_9 : decode cL_ticksByServing 9 = .ok (.goto 9, 3) := by decide +kernel
theorem dL_ticksByServing_12 : decode cL_ticksByServing 12 = .ok (.astore_n 3, 1) := by decide +kernel
theorem dL_ticksByServing_13 : decode cL_ticksByServing 13 = .ok (.iconst 1, 1) := by decide +kernel
theorem dL_ticksByServing_14 : decode cL_ticksByServing 14 = .ok (.ireturn, 1) := by decide +kernel
theorem dL_ticksByServing_15 : decode cL_ticksByServing 15 = .ok (.astore_n 3, 1) := by decide +kernel
theorem dL_ticksByServing_16 : decode cL_ticksByServing 16 = .ok (.iconst 2, 1) := by decide +kernel
theorem dL_ticksByServing_17 : decode cL_ticksByServing 17 = .ok (.ireturn, 1) := by decide +kernel
theorem dL_ticksByServing_18 : decode cL_ticksByServing 18 = .ok (.iconst 0, 1) := by decide +kernel
theorem dL_ticksByServing_19 : decode cL_ticksByServing 19 = .ok (.ireturn, 1) := by decide +kernel
set_option maxRecDepth 20000 in
theorem ggL_ticksBySums_X8_ticksBySums : GoodIn wsL_ticksBySums wsX8_ticksBySums := goodIn_ca (goodIn_ca (goodIn_r _ [7, 8, 9, 10, 11, 12, 13, 6, 14, 15, 16, 17, 18, 19, 20, 21, 22, 23, 24, 25, 26, 27, 28, 29, 30, 31, 32, 33, 34, 35, 36, 37, 38, 39, 40, 41, 42, 43, 44, 45, 46, 47, 48, 49, 50, 51, 52, 53, 54, 55, 56, 57, 58, 59, 60, 61, 62, 63, 64, 65, 66, 67, 68, 69, 70, 71, 72, 73, 74, 75, 76, 77, 78, 79, 80, 81, 82, 83, 84, 85, 86, 87, 88, 89, 90, 91, 92, 93, 94] (by decide +kernel) (by decide +kernel)) (goodIn_sub (fun _ h => List.mem_cons_of_mem _ (List.mem_append_left _ (List.mem_append_right _ h))) (by decide +kernel))) (goodIn_sub (fun _ h => List.mem_cons_of_mem _ (List.mem_append_right _ h)) (by decide +kernel))
set_option maxRecDepth 20000 in
theorem gL_ticksBySums_X8_ticksBySums : GoodIn wsL_ticksBySums (wsV RL 162 RX8 yX8_ticksBySums wsX8_ticksBySums) := goodIn_app (goodIn_of _ (by decide +kernel)) ggL_ticksBySums_X8_ticksBySums
theorem dL_ticksBySums_0 : decode cL_ticksBySums 0 = .ok (.aload_n 2, 1) := by decide +kernel
theorem dL_ticksBySums_1 : decode cL_ticksBySums 1 = .ok (.iconst 0, 1) := by decide +kernel
theorem dL_ticksBySums_2 : decode cL_ticksBySums 2 = .ok (.aload_n 0, 1) := by decide +kernel
theorem dL_ticksBySums_3 : decode cL_ticksBySums 3 = .ok (.iload_n 1, 1) := by decide +kernel
theorem dL_ticksBySums_4 : decode cL_ticksBySums 4 = .ok (.invokevirtual 162, 3) := by decide +kernel
theorem dL_ticksBySums_7 : decode cL_ticksBySums 7 = .ok (.i2l, 1) := by decide +kernel
theorem dL_ticksBySums_8 : decode cL_ticksBySums 8 = .ok (.lastore, 1) := by decide +kernel
theorem dL_ticksBySums_9 : decode cL_ticksBySums 9 = .ok (.goto 9, 3) := by decide +kernel
theorem dL_ticksBySums_12 : decode cL_ticksBySums 12 = .ok (.astore_n 3, 1) := by decide +kernel
theorem dL_ticksBySums_13 : decode cL_ticksBySums 13 = .ok (.iconst 1, 1) := by decide +kernel
theorem dL_ticksBySums_14 : decode cL_ticksBySums 14 = .ok (.ireturn, 1) := by decide +kernel
theorem dL_ticksBySums_15 : decode cL_ticksBySums 15 = .ok (.astore_n 3, 1) := by decide +kernel
theorem dL_ticksBySums_16 : decode cL_ticksBySums 16 = .ok (.iconst 2, 1) := by decide +kernel
theorem dL_ticksBySums_17 : decode cL_ticksBySums 17 = .ok (.ireturn, 1) := by decide +kernel
theorem dL_ticksBySums_18 : decode cL_ticksBySums 18 = .ok (.iconst 0, 1) := by decide +kernel
theorem dL_ticksBySums_19 : decode cL_ticksBySums 19 = .ok (.ireturn, 1) := by decide +kernel
set_option maxRecDepth 20000 in
theorem ggL_cheapestOrder_X8_cheapestOrder : GoodIn wsL_cheapestOrder wsX8_cheapestOrder := goodIn_ca (goodIn_r _ [6, 7, 8, 9, 10, 11, 5, 12, 13, 14, 15, 16, 17, 18, 19, 20, 21, 22, 23, 24, 25, 26, 27, 28, 29, 30, 31, 32, 33, 34, 35, 36, 37, 38, 39, 40, 41, 42, 43, 44, 45, 46, 47, 48, 49, 50, 51, 52, 53, 54, 55, 56, 57, 58, 59, 60, 61, 62, 63, 64, 65, 66, 67, 68, 69, 70, 71, 72, 73, 74, 75, 76, 77, 78, 79, 80, 81, 82, 83, 84, 85, 86, 87, 88, 89, 90, 91, 92, 93, 94, 95, 96, 97, 98, 99, 100, 101, 102, 103, 104, 105, 106, 107, 108, 109, 110, 111, 112, 113, 114, 115, 116, 117, 118, 119, 120, 121, 122, 123, 124, 125, 126, 127, 128, 129, 130, 131, 132, 133, 134, 135, 136, 137, 138, 139, 140, 141, 142, 143, 144, 145, 146, 147, 148, 149, 150, 151, 152, 153, 154, 155, 156, 157, 158, 159, 160, 161, 162, 163, 164, 165, 166, 167, 168, 169, 170, 171, 172, 173, 174, 175, 176, 177, 178, 179, 180, 181, 182, 183, 184] (by decide +kernel) (by decide +kernel)) (goodIn_sub (fun _ h => List.mem_cons_of_mem _ (List.mem_append_right _ h)) (by decide +kernel))
set_option maxRecDepth 20000 in
theorem gL_cheapestOrder_X8_cheapestOrder : GoodIn wsL_cheapestOrder (wsV RL 165 RX8 yX8_cheapestOrder wsX8_cheapestOrder) := goodIn_app (goodIn_of _ (by decide +kernel)) ggL_cheapestOrder_X8_cheapestOrder
theorem dL_cheapestOrder_0 : decode cL_cheapestOrder 0 = .ok (.aload_n 1, 1) := by decide +kernel
theorem dL_cheapestOrder_1 : decode cL_cheapestOrder 1 = .ok (.iconst 0, 1) := by decide +kernel
theorem dL_cheapestOrder_2 : decode cL_cheapestOrder 2 = .ok (.aload_n 0, 1) := by decide +kernel
theorem dL_cheapestOrder_3 : decode cL_cheapestOrder 3 = .ok (.invokevirtual 165, 3) := by decide +kernel
theorem dL_cheapestOrder_6 : decode cL_cheapestOrder 6 = .ok (.i2l, 1) := by decide +kernel
theorem dL_cheapestOrder_7 : decode cL_cheapestOrder 7 = .ok (.lastore, 1) := by decide +kernel
theorem dL_cheapestOrder_8 : decode cL_cheapestOrder 8 = .ok (.goto 6, 3) := by decide +kernel
theorem dL_cheapestOrder_11 : decode cL_cheapestOrder 11 = .ok (.astore_n 2, 1) := by decide +kernel
theorem dL_cheapestOrder_12 : decode cL_cheapestOrder 12 = .ok (.iconst 1, 1) := by decide +kernel
theorem dL_cheapestOrder_13 : decode cL_cheapestOrder 13 = .ok (.ireturn, 1) := by decide +kernel
theorem dL_cheapestOrder_14 : decode cL_cheapestOrder 14 = .ok (.iconst 0, 1) := by decide +kernel
theorem dL_cheapestOrder_15 : decode cL_cheapestOrder 15 = .ok (.ireturn, 1) := by decide +kernel
set_option maxRecDepth 20000 in
theorem ggL_servable_X8_servable : GoodIn wsL_servable wsX8_servable := goodIn_ca (goodIn_r _ [6, 7, 8, 9, 10, 11, 5, 12, 13, 14, 15, 16, 17, 18, 19, 20, 21, 22, 23, 24, 25, 26, 27, 28, 29, 30, 31, 32, 33, 34, 35, 36, 37, 38, 39, 40, 41, 42, 43, 44, 45, 46, 47, 48, 49, 50, 51, 52, 53, 54, 55, 56, 57, 58, 59, 60, 61, 62, 63, 64, 65, 66, 67, 68, 69, 70, 71, 72, 73, 74, 75, 76, 77, 78, 79, 80, 81, 82, 83, 84, 85, 86, 87, 88, 89, 90, 91, 92, 93, 94, 95, 96, 97, 98, 99, 100, 101, 102, 103, 104, 105, 106, 107, 108, 109, 110, 111, 112, 113, 114, 115, 116, 117, 118, 119, 120, 121, 122, 123, 124, 125, 126, 127, 128, 129, 130, 131, 132, 133, 134, 135, 136, 137, 138, 139, 140, 141, 142, 143, 144, 145, 146, 147, 148, 149, 150, 151, 152, 153, 154, 155, 156, 157, 158, 159, 160, 161, 162, 163, 164, 165, 166, 167, 168, 169, 170, 171, 172, 173, 174, 175, 176, 177, 178, 179, 180, 181, 182, 183, 184, 185, 186, 187, 188, 189] (by decide +kernel) (by decide +kernel)) (goodIn_sub (fun _ h => List.mem_cons_of_mem _ (List.mem_append_right _ h)) (by decide +kernel))
set_option maxRecDepth 20000 in
theorem gL_servable_X8_servable : GoodIn wsL_servable (wsV RL 168 RX8 yX8_servable wsX8_servable) := goodIn_app (goodIn_of _ (by decide +kernel)) ggL_servable_X8_servable
theorem dL_servable_0 : decode cL_servable 0 = .ok (.aload_n 1, 1) := by decide +kernel
theorem dL_servable_1 : decode cL_servable 1 = .ok (.iconst 0, 1) := by decide +kernel
theorem dL_servable_2 : decode cL_servable 2 = .ok (.aload_n 0, 1) := by decide +kernel
theorem dL_servable_3 : decode cL_servable 3 = .ok (.invokevirtual 168, 3) := by decide +kernel
theorem dL_servable_6 : decode cL_servable 6 = .ok (.i2l, 1) := by decide +kernel
theorem dL_servable_7 : decode cL_servable 7 = .ok (.lastore, 1) := by decide +kernel
theorem dL_servable_8 : decode cL_servable 8 = .ok (.goto 6, 3) := by decide +kernel
theorem dL_servable_11 : decode cL_servable 11 = .ok (.astore_n 2, 1) := by decide +kernel
theorem dL_servable_12 : decode cL_servable 12 = .ok (.iconst 1, 1) := by decide +kernel
theorem dL_servable_13 : decode cL_servable 13 = .ok (.ireturn, 1) := by decide +kernel
theorem dL_servable_14 : decode cL_servable 14 = .ok (.iconst 0, 1) := by decide +kernel
theorem dL_servable_15 : decode cL_servable 15 = .ok (.ireturn, 1) := by decide +kernel
set_option maxRecDepth 20000 in
theorem ggL_fetchTicks_X8_fetchTicks : GoodIn wsL_fetchTicks wsX8_fetchTicks := goodIn_ca (goodIn_ca (goodIn_r _ [7, 8, 9, 10, 11, 6, 12, 13, 14, 15, 16, 17, 18, 19, 20, 21, 22, 23, 24, 25, 26, 27, 28, 29, 30, 31, 32, 33, 34, 35, 36, 37, 38, 39, 40, 41, 42, 43, 44, 45, 46, 47, 48, 49, 50, 51, 52, 53, 54, 55, 56, 57] (by decide +kernel) (by decide +kernel)) (goodIn_sub (fun _ h => List.mem_cons_of_mem _ (List.mem_append_left _ (List.mem_append_right _ h))) (by decide +kernel))) (goodIn_sub (fun _ h => List.mem_cons_of_mem _ (List.mem_append_right _ h)) (by decide +kernel))
set_option maxRecDepth 20000 in
theorem gL_fetchTicks_X8_fetchTicks : GoodIn wsL_fetchTicks (wsV RL 171 RX8 yX8_fetchTicks wsX8_fetchTicks) := goodIn_app (goodIn_of _ (by decide +kernel)) ggL_fetchTicks_X8_fetchTicks
theorem dL_fetchTicks_0 : decode cL_fetchTicks 0 = .ok (.aload_n 2, 1) := by decide +kernel
theorem dL_fetchTicks_1 : decode cL_fetchTicks 1 = .ok (.iconst 0, 1) := by decide +kernel
theorem dL_fetchTicks_2 : decode cL_fetchTicks 2 = .ok (.aload_n 0, 1) := by decide +kernel
theorem dL_fetchTicks_3 : decode cL_fetchTicks 3 = .ok (.iload_n 1, 1) := by decide +kernel
theorem dL_fetchTicks_4 : decode cL_fetchTicks 4 = .ok (.invokevirtual 171, 3) := by decide +kernel
theorem dL_fetchTicks_7 : decode cL_fetchTicks 7 = .ok (.i2l, 1) := by decide +kernel
theorem dL_fetchTicks_8 : decode cL_fetchTicks 8 = .ok (.lastore, 1) := by decide +kernel
theorem dL_fetchTicks_9 : decode cL_fetchTicks 9 = .ok (.goto 9, 3) := by decide +kernel
theorem dL_fetchTicks_12 : decode cL_fetchTicks 12 = .ok (.astore_n 3, 1) := by decide +kernel
theorem dL_fetchTicks_13 : decode cL_fetchTicks 13 = .ok (.iconst 1, 1) := by decide +kernel
theorem dL_fetchTicks_14 : decode cL_fetchTicks 14 = .ok (.ireturn, 1) := by decide +kernel
theorem dL_fetchTicks_15 : decode cL_fetchTicks 15 = .ok (.astore_n 3, 1) := by decide +kernel
theorem dL_fetchTicks_16 : decode cL_fetchTicks 16 = .ok (.iconst 2, 1) := by decide +kernel
theorem dL_fetchTicks_17 : decode cL_fetchTicks 17 = .ok (.ireturn, 1) := by decide +kernel
theorem dL_fetchTicks_18 : decode cL_fetchTicks 18 = .ok (.iconst 0, 1) := by decide +kernel
theorem dL_fetchTicks_19 : decode cL_fetchTicks 19 = .ok (.ireturn, 1) := by decide +kernel
set_option maxRecDepth 20000 in
theorem ggL_heaviest_X8_heaviest : GoodIn wsL_heaviest wsX8_heaviest := goodIn_ca (goodIn_r _ [6, 7, 8, 9, 10, 5, 11, 12, 13, 14, 15, 16, 17, 18, 19, 20, 21, 22, 23, 24, 25, 26, 27, 28, 29, 30, 31, 32, 33, 34, 35, 36, 37, 38, 39, 40, 41, 42, 43, 44, 45, 46, 47, 48, 49] (by decide +kernel) (by decide +kernel)) (goodIn_sub (fun _ h => List.mem_cons_of_mem _ (List.mem_append_right _ h)) (by decide +kernel))
set_option maxRecDepth 20000 in
theorem gL_heaviest_X8_heaviest : GoodIn wsL_heaviest (wsV RL 174 RX8 yX8_heaviest wsX8_heaviest) := goodIn_app (goodIn_of _ (by decide +kernel)) ggL_heaviest_X8_heaviest
theorem dL_heaviest_0 : decode cL_heaviest 0 = .ok (.aload_n 1, 1) := by decide +kernel
theorem dL_heaviest_1 : decode cL_heaviest 1 = .ok (.iconst 0, 1) := by decide +kernel
theorem dL_heaviest_2 : decode cL_heaviest 2 = .ok (.aload_n 0, 1) := by decide +kernel
theorem dL_heaviest_3 : decode cL_heaviest 3 = .ok (.invokevirtual 174, 3) := by decide +kernel
theorem dL_heaviest_6 : decode cL_heaviest 6 = .ok (.i2l, 1) := by decide +kernel
theorem dL_heaviest_7 : decode cL_heaviest 7 = .ok (.lastore, 1) := by decide +kernel
theorem dL_heaviest_8 : decode cL_heaviest 8 = .ok (.goto 6, 3) := by decide +kernel
theorem dL_heaviest_11 : decode cL_heaviest 11 = .ok (.astore_n 2, 1) := by decide +kernel
theorem dL_heaviest_12 : decode cL_heaviest 12 = .ok (.iconst 1, 1) := by decide +kernel
theorem dL_heaviest_13 : decode cL_heaviest 13 = .ok (.ireturn, 1) := by decide +kernel
theorem dL_heaviest_14 : decode cL_heaviest 14 = .ok (.iconst 0, 1) := by decide +kernel
theorem dL_heaviest_15 : decode cL_heaviest 15 = .ok (.ireturn, 1) := by decide +kernel
set_option maxRecDepth 20000 in
theorem ggL_mostFetched_X8_mostFetched : GoodIn wsL_mostFetched wsX8_mostFetched := goodIn_ca (goodIn_r _ [6, 7, 8, 9, 10, 5, 11, 12, 13, 14, 15, 16, 17, 18, 19, 20, 21, 22, 23, 24, 25, 26, 27, 28, 29, 30, 31, 32, 33, 34, 35, 36] (by decide +kernel) (by decide +kernel)) (goodIn_sub (fun _ h => List.mem_cons_of_mem _ (List.mem_append_right _ h)) (by decide +kernel))
set_option maxRecDepth 20000 in
theorem gL_mostFetched_X8_mostFetched : GoodIn wsL_mostFetched (wsV RL 177 RX8 yX8_mostFetched wsX8_mostFetched) := goodIn_app (goodIn_of _ (by decide +kernel)) ggL_mostFetched_X8_mostFetched
theorem dL_mostFetched_0 : decode cL_mostFetched 0 = .ok (.aload_n 1, 1) := by decide +kernel
theorem dL_mostFetched_1 : decode cL_mostFetched 1 = .ok (.iconst 0, 1) := by decide +kernel
theorem dL_mostFetched_2 : decode cL_mostFetched 2 = .ok (.aload_n 0, 1) := by decide +kernel
theorem dL_mostFetched_3 : decode cL_mostFetched 3 = .ok (.invokevirtual 177, 3) := by decide +kernel
theorem dL_mostFetched_6 : decode cL_mostFetched 6 = .ok (.i2l, 1) := by decide +kernel
theorem dL_mostFetched_7 : decode cL_mostFetched 7 = .ok (.lastore, 1) := by decide +kernel
theorem dL_mostFetched_8 : decode cL_mostFetched 8 = .ok (.goto 6, 3) := by decide +kernel
theorem dL_mostFetched_11 : decode cL_mostFetched 11 = .ok (.astore_n 2, 1) := by decide +kernel
theorem dL_mostFetched_12 : decode cL_mostFetched 12 = .ok (.iconst 1, 1) := by decide +kernel
theorem dL_mostFetched_13 : decode cL_mostFetched 13 = .ok (.ireturn, 1) := by decide +kernel
theorem dL_mostFetched_14 : decode cL_mostFetched 14 = .ok (.iconst 0, 1) := by decide +kernel
theorem dL_mostFetched_15 : decode cL_mostFetched 15 = .ok (.ireturn, 1) := by decide +kernel
set_option maxRecDepth 20000 in
theorem ggL_law_X8_init : GoodIn wsL_law wsX8_init := goodIn_r _ [9, 10, 11, 12, 13, 14, 15, 16, 17, 18, 19, 20, 21, 22, 23, 24, 25, 26, 27, 28, 29, 30, 31, 32, 33, 34, 35, 36, 37, 38, 39, 40, 41, 42, 43, 44, 45, 46, 47, 48, 49, 50, 51, 52, 53, 54, 55, 56, 57, 58, 59, 60, 61, 62, 63, 64, 65, 66, 67, 68, 69, 70, 71, 72, 73, 74, 75, 76, 77, 78, 79, 80, 81, 82, 83, 84, 85, 86, 87, 88, 89, 90, 91, 92, 93, 94, 95, 96, 97, 98, 99, 100, 101, 102, 1551, 1552, 1553, 1554, 1555, 1532, 1533, 1534, 1535, 1536, 1537, 1556, 1557, 1558, 1559, 1560, 1561, 1562, 1563, 1564, 1565, 1566, 1567, 1568, 1569, 1570, 1571, 1572, 1573, 1574, 1575, 1576, 1577, 1578, 1579, 1580, 1581, 1582, 1583] (by decide +kernel) (by decide +kernel)
set_option maxRecDepth 20000 in
theorem gL_law_X8_init : GoodIn wsL_law (wsX8_init) := ggL_law_X8_init
set_option maxRecDepth 20000 in
theorem ggL_law_X9_init : GoodIn wsL_law wsX9_init := goodIn_r _ [105, 106, 11, 12, 26, 107, 108, 109, 110, 67, 111, 112, 113, 114, 115, 1538, 1539, 1540, 1541, 1542, 1543, 1544, 1545, 1546, 1547, 1548, 1549, 1550] (by decide +kernel) (by decide +kernel)
set_option maxRecDepth 20000 in
theorem gL_law_X9_init : GoodIn wsL_law (wsX9_init) := ggL_law_X9_init
set_option maxRecDepth 20000 in
theorem ggL_law_L_addShelf : GoodIn wsL_law wsL_addShelf := goodIn_ca (goodIn_ca (goodIn_r _ [119, 120, 121, 122, 123, 124, 2, 125, 126, 127, 16, 21, 128, 129, 130, 131, 132, 133, 134, 135, 136, 137, 138, 34, 139, 140, 141, 142, 143, 144, 52, 53, 55, 54, 145, 146, 147, 148, 149, 150, 151, 152, 153, 154, 20, 155, 156, 84, 86, 85, 14, 15, 157, 158, 159, 160, 29, 30, 31, 11, 12, 32, 33, 35, 36, 37, 38, 39, 40, 41, 42, 43, 44, 45, 46, 47, 48, 49, 50, 51, 26, 56, 57, 58, 59, 60, 61, 62, 63, 64, 65, 66, 67, 68, 69, 70, 71, 72, 73, 74, 75, 76, 77, 78, 79, 80, 161, 162, 163, 164, 165, 166, 167, 168, 169, 170, 171, 172, 173, 174, 175, 176, 177, 178, 179, 180, 181, 182, 183, 184, 1532, 1533, 1534, 1535, 1536, 1537, 1551, 1552, 1553, 1554, 1555, 1562, 1563, 1564, 1565, 1566, 1567, 1556, 1557, 1558, 1568, 1569, 1570, 1571, 1572, 1573, 1574, 1575, 1576, 1577, 1578, 1579, 1580] (by decide +kernel) (by decide +kernel)) (goodIn_sub (fun _ h => List.mem_append_left _ (List.mem_append_left _ (List.mem_append_right _ h))) (by decide +kernel))) (goodIn_sub (fun _ h => List.mem_append_left _ (List.mem_append_right _ h)) (by decide +kernel))
set_option maxRecDepth 20000 in
theorem gL_law_L_addShelf : GoodIn wsL_law (va_wsS RL 184 yL_addShelf wsL_addShelf) := goodIn_app (goodIn_of _ (by decide +kernel)) ggL_law_L_addShelf
set_option maxRecDepth 20000 in
theorem ggL_law_X9_addShelf : GoodIn wsL_law wsX9_addShelf := goodIn_r _ [188, 115, 107, 189, 190, 5, 191, 192, 193, 194, 195, 196, 197, 198, 199, 200, 201, 202, 203, 204, 205, 206, 207, 208, 209, 210, 211, 212, 213, 214, 215, 216, 217, 218, 219, 220, 109, 221, 222, 223, 224, 225, 226, 227, 228, 1538, 1539, 1540, 1541, 1542, 1543, 1544, 1545, 1546, 1547, 1548, 1549, 1550] (by decide +kernel) (by decide +kernel)
set_option maxRecDepth 20000 in
theorem gL_law_X9_addShelf : GoodIn wsL_law (wsV RL 189 RX9 yX9_addShelf wsX9_addShelf) := goodIn_app (goodIn_of _ (by decide +kernel)) ggL_law_X9_addShelf
set_option maxRecDepth 20000 in
theorem ggL_law_X9_thrown : GoodIn wsL_law wsX9_thrown := goodIn_r _ [232, 115, 1538, 1539, 1540, 1541, 1542, 1543, 1544, 1545, 1546, 1547, 1548, 1549, 1550] (by decide +kernel) (by decide +kernel)
set_option maxRecDepth 20000 in
theorem gL_law_X9_thrown : GoodIn wsL_law (wsV RL 190 RX9 yX9_thrown wsX9_thrown) := goodIn_app (goodIn_of _ (by decide +kernel)) ggL_law_X9_thrown
set_option maxRecDepth 20000 in
theorem ggL_law_L_scrap : GoodIn wsL_law wsL_scrap := goodIn_ca (goodIn_ca (goodIn_r _ [235, 236, 121, 237, 238, 239, 2, 240, 126, 127, 16, 21, 241, 242, 243, 244, 245, 246, 247, 34, 248, 249, 250, 251, 252, 253, 57, 154, 20, 155, 156, 84, 86, 85, 14, 15, 157, 158, 159, 160, 29, 30, 31, 11, 12, 32, 33, 35, 36, 37, 38, 39, 40, 41, 42, 43, 44, 45, 46, 47, 48, 49, 50, 51, 52, 53, 26, 54, 55, 56, 58, 59, 60, 61, 62, 63, 64, 65, 66, 67, 68, 69, 70, 71, 72, 73, 74, 75, 76, 77, 78, 79, 80, 161, 162, 163, 164, 165, 166, 167, 168, 169, 170, 171, 172, 173, 174, 175, 176, 177, 178, 179, 180, 181, 254, 255, 256, 1532, 1533, 1534, 1535, 1536, 1537, 1551, 1552, 1553, 1554, 1555, 1562, 1563, 1564, 1565, 1566, 1567, 1556, 1557, 1558, 1568, 1569, 1570, 1571, 1572, 1573, 1574, 1575, 1576, 1577, 1578, 1579, 1580] (by decide +kernel) (by decide +kernel)) (goodIn_sub (fun _ h => List.mem_append_left _ (List.mem_append_left _ (List.mem_append_right _ h))) (by decide +kernel))) (goodIn_sub (fun _ h => List.mem_append_right _ h) (by decide +kernel))
set_option maxRecDepth 20000 in
theorem gL_law_L_scrap : GoodIn wsL_law (va_wsS RL 193 yL_scrap wsL_scrap) := goodIn_app (goodIn_of _ (by decide +kernel)) ggL_law_L_scrap
set_option maxRecDepth 20000 in
theorem ggL_law_X9_scrap : GoodIn wsL_law wsX9_scrap := goodIn_r _ [260, 115, 107, 261, 262, 263, 5, 264, 189, 190, 191, 192, 193, 194, 195, 265, 266, 267, 268, 212, 213, 214, 215, 216, 217, 218, 219, 220, 109, 1538, 1539, 1540, 1541, 1542, 1543, 1544, 1545, 1546, 1547, 1548, 1549, 1550] (by decide +kernel) (by decide +kernel)
set_option maxRecDepth 20000 in
theorem gL_law_X9_scrap : GoodIn wsL_law (wsV RL 195 RX9 yX9_scrap wsX9_scrap) := goodIn_app (goodIn_of _ (by decide +kernel)) ggL_law_X9_scrap
set_option maxRecDepth 20000 in
theorem ggL_law_L_fetch : GoodIn wsL_law wsL_fetch := goodIn_ca (goodIn_ca (goodIn_r _ [271, 236, 121, 272, 273, 274, 2, 275, 21, 16, 241, 242, 243, 244, 245, 246, 134, 135, 136, 137, 126, 127, 154, 20, 155, 156, 84, 86, 85, 14, 15, 157, 158, 159, 160, 29, 30, 31, 11, 12, 32, 33, 34, 35, 36, 37, 38, 39, 40, 41, 42, 43, 44, 45, 46, 47, 48, 49, 50, 51, 52, 53, 26, 54, 55, 56, 57, 58, 59, 60, 61, 62, 63, 64, 65, 66, 67, 68, 69, 70, 71, 72, 73, 74, 75, 76, 77, 78, 79, 80, 161, 162, 163, 164, 165, 166, 167, 168, 169, 170, 171, 172, 173, 174, 175, 176, 177, 178, 179, 180, 181, 276, 277, 278, 279, 280, 281, 282, 283, 284, 285, 286, 287, 288, 289, 290, 291, 292, 293, 294, 1532, 1533, 1534, 1535, 1536, 1537, 1551, 1552, 1553, 1554, 1555, 1562, 1563, 1564, 1565, 1566, 1567, 1556, 1557, 1558, 1568, 1569, 1570, 1571, 1572, 1573, 1574, 1575, 1576, 1577, 1578, 1579, 1580] (by decide +kernel) (by decide +kernel)) (goodIn_sub (fun _ h => List.mem_append_right _ h) (by decide +kernel))) (goodIn_sub (fun _ h => List.mem_append_left _ (List.mem_append_left _ (List.mem_append_right _ h))) (by decide +kernel))
set_option maxRecDepth 20000 in
theorem gL_law_L_fetch : GoodIn wsL_law (va_wsS RL 196 yL_fetch wsL_fetch) := goodIn_app (goodIn_of _ (by decide +kernel)) ggL_law_L_fetch
set_option maxRecDepth 20000 in
theorem ggL_law_X9_fetch : GoodIn wsL_law wsX9_fetch := goodIn_r _ [298, 115, 261, 262, 263, 5, 264, 107, 189, 190, 191, 192, 193, 194, 195, 196, 197, 198, 199, 216, 217, 218, 219, 220, 109, 299, 300, 301, 302, 303, 304, 305, 306, 212, 213, 214, 215, 307, 308, 309, 310, 221, 222, 223, 224, 311, 312, 313, 314, 1538, 1539, 1540, 1541, 1542, 1543, 1544, 1545, 1546, 1547, 1548, 1549, 1550] (by decide +kernel) (by decide +kernel)
set_option maxRecDepth 20000 in
theorem gL_law_X9_fetch : GoodIn wsL_law (wsV RL 198 RX9 yX9_fetch wsX9_fetch) := goodIn_app (goodIn_of _ (by decide +kernel)) ggL_law_X9_fetch
set_option maxRecDepth 20000 in
theorem ggL_law_L_stow : GoodIn wsL_law wsL_stow := goodIn_ca (goodIn_r _ [317, 121, 318, 319, 320, 2, 321, 21, 16, 322, 323, 324, 325, 126, 127, 154, 20, 155, 156, 84, 86, 85, 14, 15, 157, 158, 159, 160, 29, 30, 31, 11, 12, 32, 33, 34, 35, 36, 37, 38, 39, 40, 41, 42, 43, 44, 45, 46, 47, 48, 49, 50, 51, 52, 53, 26, 54, 55, 56, 57, 58, 59, 60, 61, 62, 63, 64, 65, 66, 67, 68, 69, 70, 71, 72, 73, 74, 75, 76, 77, 78, 79, 80, 161, 162, 163, 164, 165, 166, 167, 168, 169, 170, 171, 172, 173, 174, 175, 176, 177, 178, 179, 180, 181, 326, 327, 328, 138, 139, 140, 141, 142, 143, 144, 145, 146, 147, 148, 149, 150, 151, 152, 153, 329, 330, 331, 332, 287, 288, 289, 290, 291, 292, 293, 285, 294, 1532, 1533, 1534, 1535, 1536, 1537, 1551, 1552, 1553, 1554, 1555, 1562, 1563, 1564, 1565, 1566, 1567, 1556, 1557, 1558, 1568, 1569, 1570, 1571, 1572, 1573, 1574, 1575, 1576, 1577, 1578, 1579, 1580] (by decide +kernel) (by decide +kernel)) (goodIn_sub (fun _ h => List.mem_append_left _ (List.mem_append_left _ (List.mem_append_right _ h))) (by decide +kernel))
set_option maxRecDepth 20000 in
theorem gL_law_L_stow : GoodIn wsL_law (va_wsS RL 199 yL_stow wsL_stow) := goodIn_app (goodIn_of _ (by decide +kernel)) ggL_law_L_stow
set_option maxRecDepth 20000 in
theorem ggL_law_X9_stow : GoodIn wsL_law wsX9_stow := goodIn_r _ [336, 115, 196, 197, 198, 5, 199, 107, 192, 193, 194, 195, 216, 217, 218, 219, 220, 109, 337, 338, 339, 340, 212, 213, 214, 215, 200, 201, 202, 203, 204, 205, 206, 207, 208, 209, 210, 211, 189, 190, 191, 341, 342, 343, 344, 225, 226, 227, 228, 221, 222, 223, 224, 307, 308, 309, 310, 311, 312, 313, 314, 1538, 1539, 1540, 1541, 1542, 1543, 1544, 1545, 1546, 1547, 1548, 1549, 1550] (by decide +kernel) (by decide +kernel)
set_option maxRecDepth 20000 in
theorem gL_law_X9_stow : GoodIn wsL_law (wsV RL 202 RX9 yX9_stow wsX9_stow) := goodIn_app (goodIn_of _ (by decide +kernel)) ggL_law_X9_stow
set_option maxRecDepth 20000 in
theorem ggL_law_L_stowAt : GoodIn wsL_law wsL_stowAt := goodIn_ca (goodIn_ca (goodIn_r _ [347, 236, 121, 348, 349, 350, 2, 351, 126, 127, 16, 21, 352, 353, 354, 355, 245, 246, 356, 357, 358, 359, 322, 323, 324, 325, 142, 34, 143, 144, 52, 53, 55, 54, 145, 146, 147, 152, 153, 154, 20, 155, 156, 84, 86, 85, 14, 15, 157, 158, 159, 160, 29, 30, 31, 11, 12, 32, 33, 35, 36, 37, 38, 39, 40, 41, 42, 43, 44, 45, 46, 47, 48, 49, 50, 51, 26, 56, 57, 58, 59, 60, 61, 62, 63, 64, 65, 66, 67, 68, 69, 70, 71, 72, 73, 74, 75, 76, 77, 78, 79, 80, 161, 162, 163, 164, 165, 166, 167, 168, 169, 170, 171, 172, 173, 174, 175, 176, 177, 178, 179, 180, 181, 330, 331, 332, 287, 288, 289, 290, 291, 292, 293, 285, 294, 1532, 1533, 1534, 1535, 1536, 1537, 1551, 1552, 1553, 1554, 1555, 1562, 1563, 1564, 1565, 1566, 1567, 1556, 1557, 1558, 1568, 1569, 1570, 1571, 1572, 1573, 1574, 1575, 1576, 1577, 1578, 1579, 1580] (by decide +kernel) (by decide +kernel)) (goodIn_sub (fun _ h => List.mem_append_left _ (List.mem_append_left _ (List.mem_append_right _ h))) (by decide +kernel))) (goodIn_sub (fun _ h => List.mem_append_right _ h) (by decide +kernel))
set_option maxRecDepth 20000 in
theorem gL_law_L_stowAt : GoodIn wsL_law (va_wsS RL 203 yL_stowAt wsL_stowAt) := goodIn_app (goodIn_of _ (by decide +kernel)) ggL_law_L_stowAt
set_option maxRecDepth 20000 in
theorem ggL_law_X9_stowAt : GoodIn wsL_law wsX9_stowAt := goodIn_r _ [363, 115, 107, 364, 365, 5, 366, 189, 190, 191, 192, 193, 194, 195, 196, 197, 198, 199, 212, 213, 214, 215, 204, 205, 206, 207, 208, 209, 210, 211, 216, 217, 218, 219, 220, 109, 341, 342, 343, 344, 225, 226, 227, 228, 221, 222, 223, 224, 307, 308, 309, 310, 311, 312, 313, 314, 1538, 1539, 1540, 1541, 1542, 1543, 1544, 1545, 1546, 1547, 1548, 1549, 1550] (by decide +kernel) (by decide +kernel)
set_option maxRecDepth 20000 in
theorem gL_law_X9_stowAt : GoodIn wsL_law (wsV RL 206 RX9 yX9_stowAt wsX9_stowAt) := goodIn_app (goodIn_of _ (by decide +kernel)) ggL_law_X9_stowAt
set_option maxRecDepth 20000 in
theorem ggL_law_L_pack : GoodIn wsL_law wsL_pack := goodIn_ca (goodIn_r _ [369, 121, 370, 371, 372, 2, 373, 21, 16, 27, 374, 375, 376, 377, 126, 127, 134, 135, 136, 137, 378, 34, 379, 380, 52, 54, 381, 382, 383, 384, 56, 148, 149, 150, 151, 152, 153, 145, 146, 147, 154, 20, 155, 156, 84, 86, 85, 14, 15, 157, 158, 159, 160, 29, 30, 31, 11, 12, 32, 33, 35, 36, 37, 38, 39, 40, 41, 42, 43, 44, 45, 46, 47, 48, 49, 50, 51, 53, 26, 55, 57, 58, 59, 60, 61, 62, 63, 64, 65, 66, 67, 68, 69, 70, 71, 72, 73, 74, 75, 76, 77, 78, 79, 80, 161, 162, 163, 164, 165, 166, 167, 168, 169, 170, 171, 172, 173, 174, 175, 176, 177, 178, 179, 180, 181, 385, 386, 387, 388, 389, 390, 1532, 1533, 1534, 1535, 1536, 1537, 1551, 1552, 1553, 1554, 1555, 1562, 1563, 1564, 1565, 1566, 1567, 1556, 1557, 1558, 1568, 1569, 1570, 1571, 1572, 1573, 1574, 1575, 1576, 1577, 1578, 1579, 1580] (by decide +kernel) (by decide +kernel)) (goodIn_sub (fun _ h => List.mem_append_left _ (List.mem_append_left _ (List.mem_append_right _ h))) (by decide +kernel))
set_option maxRecDepth 20000 in
theorem gL_law_L_pack : GoodIn wsL_law (va_wsS RL 207 yL_pack wsL_pack) := goodIn_app (goodIn_of _ (by decide +kernel)) ggL_law_L_pack
set_option maxRecDepth 20000 in
theorem ggL_law_X9_pack : GoodIn wsL_law wsX9_pack := goodIn_r _ [394, 115, 196, 197, 198, 5, 199, 107, 395, 396, 397, 398, 399, 400, 401, 402, 108, 403, 404, 405, 406, 221, 222, 223, 224, 407, 408, 409, 410, 212, 213, 214, 215, 200, 201, 202, 203, 204, 205, 206, 207, 208, 209, 210, 211, 189, 190, 191, 225, 226, 227, 228, 411, 412, 413, 414, 192, 193, 194, 195, 216, 217, 218, 219, 220, 109, 1538, 1539, 1540, 1541, 1542, 1543, 1544, 1545, 1546, 1547, 1548, 1549, 1550] (by decide +kernel) (by decide +kernel)
set_option maxRecDepth 20000 in
theorem gL_law_X9_pack : GoodIn wsL_law (wsV RL 209 RX9 yX9_pack wsX9_pack) := goodIn_app (goodIn_of _ (by decide +kernel)) ggL_law_X9_pack
set_option maxRecDepth 20000 in
theorem ggL_law_L_fill : GoodIn wsL_law wsL_fill := goodIn_ca (goodIn_ca (goodIn_ca (goodIn_r _ [417, 236, 120, 121, 418, 419, 420, 2, 421, 126, 127, 16, 21, 422, 423, 424, 425, 245, 246, 426, 427, 428, 429, 132, 133, 322, 323, 324, 325, 430, 15, 431, 432, 35, 43, 251, 34, 252, 253, 57, 154, 20, 155, 156, 84, 86, 85, 14, 157, 158, 159, 160, 29, 30, 31, 11, 12, 32, 33, 36, 37, 38, 39, 40, 41, 42, 44, 45, 46, 47, 48, 49, 50, 51, 52, 53, 26, 54, 55, 56, 58, 59, 60, 61, 62, 63, 64, 65, 66, 67, 68, 69, 70, 71, 72, 73, 74, 75, 76, 77, 78, 79, 80, 161, 162, 163, 164, 165, 166, 167, 168, 169, 170, 171, 172, 173, 174, 175, 176, 177, 178, 179, 180, 181, 433, 434, 435, 1532, 1533, 1534, 1535, 1536, 1537, 1551, 1552, 1553, 1554, 1555, 1562, 1563, 1564, 1565, 1566, 1567, 1575, 1576, 1577, 1578, 1556, 1557, 1558, 1568, 1569, 1570, 1571, 1572, 1573, 1574, 1579, 1580] (by decide +kernel) (by decide +kernel)) (goodIn_sub (fun _ h => List.mem_append_left _ (List.mem_append_left _ (List.mem_append_right _ h))) (by decide +kernel))) (goodIn_sub (fun _ h => List.mem_append_right _ h) (by decide +kernel))) (goodIn_sub (fun _ h => List.mem_append_left _ (List.mem_append_right _ h)) (by decide +kernel))
set_option maxRecDepth 20000 in
theorem gL_law_L_fill : GoodIn wsL_law (va_wsS RL 210 yL_fill wsL_fill) := goodIn_app (goodIn_of _ (by decide +kernel)) ggL_law_L_fill
set_option maxRecDepth 20000 in
theorem ggL_law_X9_fill : GoodIn wsL_law wsX9_fill := goodIn_r _ [439, 115, 107, 440, 441, 5, 442, 189, 190, 191, 192, 193, 194, 195, 443, 444, 445, 196, 197, 198, 199, 446, 447, 448, 449, 212, 213, 214, 215, 216, 217, 218, 219, 220, 109, 450, 451, 452, 453, 221, 222, 223, 224, 1538, 1539, 1540, 1541, 1542, 1543, 1544, 1545, 1546, 1547, 1548, 1549, 1550] (by decide +kernel) (by decide +kernel)
set_option maxRecDepth 20000 in
theorem gL_law_X9_fill : GoodIn wsL_law (wsV RL 212 RX9 yX9_fill wsX9_fill) := goodIn_app (goodIn_of _ (by decide +kernel)) ggL_law_X9_fill
set_option maxRecDepth 20000 in
theorem ggL_law_L_take : GoodIn wsL_law wsL_take := goodIn_ca (goodIn_ca (goodIn_ca (goodIn_r _ [456, 236, 120, 121, 457, 458, 459, 2, 460, 126, 127, 16, 21, 422, 423, 424, 425, 245, 246, 426, 427, 428, 429, 132, 133, 322, 323, 324, 325, 251, 34, 252, 253, 57, 154, 20, 155, 156, 84, 86, 85, 14, 15, 157, 158, 159, 160, 29, 30, 31, 11, 12, 32, 33, 35, 36, 37, 38, 39, 40, 41, 42, 43, 44, 45, 46, 47, 48, 49, 50, 51, 52, 53, 26, 54, 55, 56, 58, 59, 60, 61, 62, 63, 64, 65, 66, 67, 68, 69, 70, 71, 72, 73, 74, 75, 76, 77, 78, 79, 80, 161, 162, 163, 164, 165, 166, 167, 168, 169, 170, 171, 172, 173, 174, 175, 176, 177, 178, 179, 180, 181, 433, 434, 435, 1532, 1533, 1534, 1535, 1536, 1537, 1551, 1552, 1553, 1554, 1555, 1562, 1563, 1564, 1565, 1566, 1567, 1575, 1576, 1577, 1578, 1556, 1557, 1558, 1568, 1569, 1570, 1571, 1572, 1573, 1574, 1579, 1580] (by decide +kernel) (by decide +kernel)) (goodIn_sub (fun _ h => List.mem_append_left _ (List.mem_append_left _ (List.mem_append_right _ h))) (by decide +kernel))) (goodIn_sub (fun _ h => List.mem_append_right _ h) (by decide +kernel))) (goodIn_sub (fun _ h => List.mem_append_left _ (List.mem_append_right _ h)) (by decide +kernel))
set_option maxRecDepth 20000 in
theorem gL_law_L_take : GoodIn wsL_law (va_wsS RL 213 yL_take wsL_take) := goodIn_app (goodIn_of _ (by decide +kernel)) ggL_law_L_take
set_option maxRecDepth 20000 in
theorem ggL_law_X9_take : GoodIn wsL_law wsX9_take := goodIn_r _ [464, 115, 107, 440, 441, 5, 442, 189, 190, 191, 192, 193, 194, 195, 443, 444, 445, 196, 197, 198, 199, 212, 213, 214, 215, 216, 217, 218, 219, 220, 109, 450, 451, 452, 453, 221, 222, 223, 224, 1538, 1539, 1540, 1541, 1542, 1543, 1544, 1545, 1546, 1547, 1548, 1549, 1550] (by decide +kernel) (by decide +kernel)
set_option maxRecDepth 20000 in
theorem gL_law_X9_take : GoodIn wsL_law (wsV RL 215 RX9 yX9_take wsX9_take) := goodIn_app (goodIn_of _ (by decide +kernel)) ggL_law_X9_take
set_option maxRecDepth 20000 in
theorem ggL_law_L_accept : GoodIn wsL_law wsL_accept := goodIn_ca (goodIn_ca (goodIn_r _ [467, 120, 121, 468, 469, 470, 2, 471, 132, 133, 126, 127, 25, 16, 21, 472, 24, 473, 474, 91, 96, 475, 476, 477, 478, 92, 479, 95, 480, 481, 100, 101, 102, 482, 483, 484, 485, 486, 487, 488, 489, 490, 491, 492, 493, 494, 495, 496, 497, 498, 499, 154, 20, 155, 156, 84, 86, 85, 14, 15, 157, 158, 159, 160, 29, 30, 31, 11, 12, 32, 33, 34, 35, 36, 37, 38, 39, 40, 41, 42, 43, 44, 45, 46, 47, 48, 49, 50, 51, 52, 53, 26, 54, 55, 56, 57, 58, 59, 60, 61, 62, 63, 64, 65, 66, 67, 68, 69, 70, 71, 72, 73, 74, 75, 76, 77, 78, 79, 80, 161, 162, 163, 164, 165, 166, 167, 168, 169, 170, 171, 172, 173, 174, 175, 176, 177, 178, 179, 180, 181, 500, 501, 502, 1532, 1533, 1534, 1535, 1536, 1537, 1551, 1552, 1553, 1554, 1555, 1579, 1580, 1559, 1560, 1561, 1581, 1582, 1583, 1556, 1557, 1558, 1562, 1563, 1564, 1565, 1566, 1567, 1568, 1569, 1570, 1571, 1572, 1573, 1574, 1575, 1576, 1577, 1578] (by decide +kernel) (by decide +kernel)) (goodIn_sub (fun _ h => List.mem_append_left _ (List.mem_append_right _ h)) (by decide +kernel))) (goodIn_sub (fun _ h => List.mem_append_left _ (List.mem_append_left _ (List.mem_append_right _ h))) (by decide +kernel))
set_option maxRecDepth 20000 in
theorem gL_law_L_accept : GoodIn wsL_law (va_wsS RL 216 yL_accept wsL_accept) := goodIn_app (goodIn_of _ (by decide +kernel)) ggL_law_L_accept
set_option maxRecDepth 20000 in
theorem ggL_law_X9_accept : GoodIn wsL_law wsX9_accept := goodIn_r _ [506, 115, 107, 113, 507, 508, 509, 510, 5, 511, 512, 513, 514, 515, 516, 517, 518, 519, 520, 521, 522, 523, 524, 525, 112, 189, 190, 191, 192, 193, 194, 195, 216, 217, 218, 219, 220, 109, 1538, 1539, 1540, 1541, 1542, 1543, 1544, 1545, 1546, 1547, 1548, 1549, 1550] (by decide +kernel) (by decide +kernel)
set_option maxRecDepth 20000 in
theorem gL_law_X9_accept : GoodIn wsL_law (wsV RL 218 RX9 yX9_accept wsX9_accept) := goodIn_app (goodIn_of _ (by decide +kernel)) ggL_law_X9_accept
set_option maxRecDepth 20000 in
theorem ggL_law_L_cancel : GoodIn wsL_law wsL_cancel := goodIn_ca (goodIn_r _ [528, 236, 529, 530, 531, 2, 532, 21, 16, 533, 534, 535, 536, 245, 246, 154, 20, 155, 156, 84, 86, 85, 14, 15, 157, 158, 159, 160, 29, 30, 31, 11, 12, 32, 33, 34, 35, 36, 37, 38, 39, 40, 41, 42, 43, 44, 45, 46, 47, 48, 49, 50, 51, 52, 53, 26, 54, 55, 56, 57, 58, 59, 60, 61, 62, 63, 64, 65, 66, 67, 68, 69, 70, 71, 72, 73, 74, 75, 76, 77, 78, 79, 80, 161, 162, 163, 164, 165, 166, 167, 168, 169, 170, 171, 172, 173, 174, 175, 176, 177, 178, 179, 180, 181, 537, 538, 539, 540, 541, 542, 543, 544, 545, 546, 1532, 1533, 1534, 1535, 1536, 1537, 1551, 1552, 1553, 1554, 1555, 1579, 1580, 1556, 1557, 1558, 1562, 1563, 1564, 1565, 1566, 1567, 1568, 1569, 1570, 1571, 1572, 1573, 1574, 1575, 1576, 1577, 1578] (by decide +kernel) (by decide +kernel)) (goodIn_sub (fun _ h => List.mem_append_right _ h) (by decide +kernel))
set_option maxRecDepth 20000 in
theorem gL_law_L_cancel : GoodIn wsL_law (va_wsS RL 219 yL_cancel wsL_cancel) := goodIn_app (goodIn_of _ (by decide +kernel)) ggL_law_L_cancel
set_option maxRecDepth 20000 in
theorem ggL_law_X9_cancel : GoodIn wsL_law wsX9_cancel := goodIn_r _ [550, 115, 551, 552, 553, 5, 554, 107, 189, 190, 191, 192, 193, 194, 195, 216, 217, 218, 219, 220, 109, 555, 556, 557, 558, 559, 560, 561, 562, 563, 564, 565, 566, 1538, 1539, 1540, 1541, 1542, 1543, 1544, 1545, 1546, 1547, 1548, 1549, 1550] (by decide +kernel) (by decide +kernel)
set_option maxRecDepth 20000 in
theorem gL_law_X9_cancel : GoodIn wsL_law (wsV RL 221 RX9 yX9_cancel wsX9_cancel) := goodIn_app (goodIn_of _ (by decide +kernel)) ggL_law_X9_cancel
set_option maxRecDepth 20000 in
theorem ggL_law_L_serve : GoodIn wsL_law wsL_serve := goodIn_ca (goodIn_ca (goodIn_r _ [569, 236, 121, 570, 571, 572, 2, 573, 21, 16, 533, 534, 535, 536, 245, 246, 134, 135, 136, 137, 126, 127, 574, 575, 576, 577, 578, 15, 579, 580, 35, 581, 582, 583, 584, 47, 541, 46, 542, 543, 80, 251, 34, 252, 253, 57, 154, 20, 155, 156, 84, 86, 85, 14, 157, 158, 159, 160, 29, 30, 31, 11, 12, 32, 33, 36, 37, 38, 39, 40, 41, 42, 43, 44, 45, 48, 49, 50, 51, 52, 53, 26, 54, 55, 56, 58, 59, 60, 61, 62, 63, 64, 65, 66, 67, 68, 69, 70, 71, 72, 73, 74, 75, 76, 77, 78, 79, 161, 162, 163, 164, 165, 166, 167, 168, 169, 170, 171, 172, 173, 174, 175, 176, 177, 178, 179, 180, 181, 585, 586, 587, 588, 589, 590, 591, 592, 593, 594, 595, 596, 597, 598, 599, 600, 601, 602, 603, 276, 277, 278, 279, 280, 281, 282, 283, 284, 285, 286, 287, 288, 289, 290, 291, 292, 293, 294, 604, 605, 606, 607, 608, 433, 434, 435, 609, 326, 327, 328, 138, 139, 140, 141, 142, 143, 144, 145, 146, 147, 148, 149, 150, 151, 152, 153, 329, 330, 331, 332, 544, 545, 546, 1532, 1533, 1534, 1535, 1536, 1537, 1551, 1552, 1553, 1554, 1555, 1579, 1580, 1562, 1563, 1564, 1565, 1566, 1567, 1556, 1557, 1558, 1568, 1569, 1570, 1571, 1572, 1573, 1574, 1575, 1576, 1577, 1578] (by decide +kernel) (by decide +kernel)) (goodIn_sub (fun _ h => List.mem_append_right _ h) (by decide +kernel))) (goodIn_sub (fun _ h => List.mem_append_left _ (List.mem_append_left _ (List.mem_append_right _ h))) (by decide +kernel))
set_option maxRecDepth 20000 in
theorem gL_law_L_serve : GoodIn wsL_law (va_wsS RL 222 yL_serve wsL_serve) := goodIn_app (goodIn_of _ (by decide +kernel)) ggL_law_L_serve
set_option maxRecDepth 20000 in
theorem ggL_law_X9_serve : GoodIn wsL_law wsX9_serve := goodIn_r _ [613, 115, 551, 552, 553, 5, 554, 107, 189, 190, 191, 192, 193, 194, 195, 196, 197, 198, 199, 614, 615, 616, 617, 559, 560, 561, 562, 618, 619, 620, 621, 212, 213, 214, 215, 216, 217, 218, 219, 220, 109, 622, 623, 624, 625, 114, 626, 627, 628, 629, 630, 631, 632, 633, 634, 635, 636, 299, 300, 301, 302, 303, 304, 305, 306, 307, 308, 309, 310, 221, 222, 223, 224, 311, 312, 313, 314, 637, 638, 639, 640, 337, 338, 339, 340, 200, 201, 202, 203, 204, 205, 206, 207, 208, 209, 210, 211, 341, 342, 343, 344, 225, 226, 227, 228, 563, 564, 565, 566, 1538, 1539, 1540, 1541, 1542, 1543, 1544, 1545, 1546, 1547, 1548, 1549, 1550] (by decide +kernel) (by decide +kernel)
set_option maxRecDepth 20000 in
theorem gL_law_X9_serve : GoodIn wsL_law (wsV RL 224 RX9 yX9_serve wsX9_serve) := goodIn_app (goodIn_of _ (by decide +kernel)) ggL_law_X9_serve
set_option maxRecDepth 20000 in
theorem ggL_law_L_serveAll : GoodIn wsL_law wsL_serveAll := goodIn_ca (goodIn_r _ [643, 121, 644, 645, 646, 2, 647, 21, 16, 134, 135, 136, 137, 126, 127, 154, 20, 155, 156, 84, 86, 85, 14, 15, 157, 158, 159, 160, 29, 30, 31, 11, 12, 32, 33, 34, 35, 36, 37, 38, 39, 40, 41, 42, 43, 44, 45, 46, 47, 48, 49, 50, 51, 52, 53, 26, 54, 55, 56, 57, 58, 59, 60, 61, 62, 63, 64, 65, 66, 67, 68, 69, 70, 71, 72, 73, 74, 75, 76, 77, 78, 79, 80, 161, 162, 163, 164, 165, 166, 167, 168, 169, 170, 171, 172, 173, 174, 175, 176, 177, 178, 179, 180, 181, 648, 649, 650, 651, 652, 653, 654, 655, 578, 579, 580, 581, 582, 583, 584, 541, 542, 543, 251, 252, 253, 656, 585, 586, 587, 588, 589, 590, 591, 592, 593, 594, 595, 596, 597, 598, 599, 600, 601, 602, 603, 276, 277, 278, 279, 280, 281, 282, 283, 284, 285, 286, 287, 288, 289, 290, 291, 292, 293, 294, 604, 605, 606, 607, 608, 433, 434, 435, 609, 326, 327, 328, 138, 139, 140, 141, 142, 143, 144, 145, 146, 147, 148, 149, 150, 151, 152, 153, 329, 330, 331, 332, 544, 545, 546, 1532, 1533, 1534, 1535, 1536, 1537, 1551, 1552, 1553, 1554, 1555, 1562, 1563, 1564, 1565, 1566, 1567, 1556, 1557, 1558, 1568, 1569, 1570, 1571, 1572, 1573, 1574, 1575, 1576, 1577, 1578, 1579, 1580] (by decide +kernel) (by decide +kernel)) (goodIn_sub (fun _ h => List.mem_append_left _ (List.mem_append_left _ (List.mem_append_right _ h))) (by decide +kernel))
set_option maxRecDepth 20000 in
theorem gL_law_L_serveAll : GoodIn wsL_law (va_wsS RL 225 yL_serveAll wsL_serveAll) := goodIn_app (goodIn_of _ (by decide +kernel)) ggL_law_L_serveAll
set_option maxRecDepth 20000 in
theorem ggL_law_X9_serveAll : GoodIn wsL_law wsX9_serveAll := goodIn_r _ [660, 115, 196, 197, 198, 5, 199, 107, 192, 193, 194, 195, 216, 217, 218, 219, 220, 109, 661, 662, 663, 664, 665, 666, 667, 668, 614, 615, 616, 617, 559, 560, 561, 562, 618, 619, 620, 621, 212, 213, 214, 215, 622, 623, 624, 625, 114, 626, 627, 628, 629, 630, 631, 632, 633, 634, 635, 636, 299, 300, 301, 302, 303, 304, 305, 306, 307, 308, 309, 310, 221, 222, 223, 224, 311, 312, 313, 314, 637, 638, 639, 640, 337, 338, 339, 340, 200, 201, 202, 203, 204, 205, 206, 207, 208, 209, 210, 211, 189, 190, 191, 341, 342, 343, 344, 225, 226, 227, 228, 563, 564, 565, 566, 1538, 1539, 1540, 1541, 1542, 1543, 1544, 1545, 1546, 1547, 1548, 1549, 1550] (by decide +kernel) (by decide +kernel)
set_option maxRecDepth 20000 in
theorem gL_law_X9_serveAll : GoodIn wsL_law (wsV RL 227 RX9 yX9_serveAll wsX9_serveAll) := goodIn_app (goodIn_of _ (by decide +kernel)) ggL_law_X9_serveAll
set_option maxRecDepth 20000 in
theorem ggL_law_L_changeLeast : GoodIn wsL_law wsL_changeLeast := goodIn_ca (goodIn_ca (goodIn_r _ [671, 236, 120, 672, 673, 674, 2, 675, 132, 133, 21, 16, 422, 423, 424, 425, 245, 246, 154, 20, 155, 156, 84, 86, 85, 14, 15, 157, 158, 159, 160, 29, 30, 31, 11, 12, 32, 33, 34, 35, 36, 37, 38, 39, 40, 41, 42, 43, 44, 45, 46, 47, 48, 49, 50, 51, 52, 53, 26, 54, 55, 56, 57, 58, 59, 60, 61, 62, 63, 64, 65, 66, 67, 68, 69, 70, 71, 72, 73, 74, 75, 76, 77, 78, 79, 80, 161, 162, 163, 164, 165, 166, 167, 168, 169, 170, 171, 172, 173, 174, 175, 176, 177, 178, 179, 180, 181, 1532, 1533, 1534, 1535, 1536, 1537, 1551, 1552, 1553, 1554, 1555, 1575, 1576, 1577, 1578, 1556, 1557, 1558, 1562, 1563, 1564, 1565, 1566, 1567, 1568, 1569, 1570, 1571, 1572, 1573, 1574, 1579, 1580] (by decide +kernel) (by decide +kernel)) (goodIn_sub (fun _ h => List.mem_append_left _ (List.mem_append_right _ h)) (by decide +kernel))) (goodIn_sub (fun _ h => List.mem_append_right _ h) (by decide +kernel))
set_option maxRecDepth 20000 in
theorem gL_law_L_changeLeast : GoodIn wsL_law (va_wsS RL 228 yL_changeLeast wsL_changeLeast) := goodIn_app (goodIn_of _ (by decide +kernel)) ggL_law_L_changeLeast
set_option maxRecDepth 20000 in
theorem ggL_law_X9_changeLeast : GoodIn wsL_law wsX9_changeLeast := goodIn_r _ [679, 115, 440, 441, 5, 442, 189, 190, 191, 192, 193, 194, 195, 216, 217, 218, 219, 220, 109, 107, 680, 681, 682, 683, 1538, 1539, 1540, 1541, 1542, 1543, 1544, 1545, 1546, 1547, 1548, 1549, 1550] (by decide +kernel) (by decide +kernel)
set_option maxRecDepth 20000 in
theorem gL_law_X9_changeLeast : GoodIn wsL_law (wsV RL 230 RX9 yX9_changeLeast wsX9_changeLeast) := goodIn_app (goodIn_of _ (by decide +kernel)) ggL_law_X9_changeLeast
set_option maxRecDepth 20000 in
theorem ggL_law_L_changeWeight : GoodIn wsL_law wsL_changeWeight := goodIn_ca (goodIn_ca (goodIn_ca (goodIn_r _ [686, 236, 120, 121, 687, 688, 689, 2, 690, 132, 133, 126, 127, 16, 21, 422, 423, 424, 425, 245, 246, 691, 15, 692, 693, 43, 35, 694, 430, 431, 432, 251, 34, 252, 253, 57, 154, 20, 155, 156, 84, 86, 85, 14, 157, 158, 159, 160, 29, 30, 31, 11, 12, 32, 33, 36, 37, 38, 39, 40, 41, 42, 44, 45, 46, 47, 48, 49, 50, 51, 52, 53, 26, 54, 55, 56, 58, 59, 60, 61, 62, 63, 64, 65, 66, 67, 68, 69, 70, 71, 72, 73, 74, 75, 76, 77, 78, 79, 80, 161, 162, 163, 164, 165, 166, 167, 168, 169, 170, 171, 172, 173, 174, 175, 176, 177, 178, 179, 180, 181, 1532, 1533, 1534, 1535, 1536, 1537, 1551, 1552, 1553, 1554, 1555, 1575, 1576, 1577, 1578, 1562, 1563, 1564, 1565, 1566, 1567, 1556, 1557, 1558, 1568, 1569, 1570, 1571, 1572, 1573, 1574, 1579, 1580] (by decide +kernel) (by decide +kernel)) (goodIn_sub (fun _ h => List.mem_append_left _ (List.mem_append_right _ h)) (by decide +kernel))) (goodIn_sub (fun _ h => List.mem_append_left _ (List.mem_append_left _ (List.mem_append_right _ h))) (by decide +kernel))) (goodIn_sub (fun _ h => List.mem_append_right _ h) (by decide +kernel))
set_option maxRecDepth 20000 in
theorem gL_law_L_changeWeight : GoodIn wsL_law (va_wsS RL 231 yL_changeWeight wsL_changeWeight) := goodIn_app (goodIn_of _ (by decide +kernel)) ggL_law_L_changeWeight
set_option maxRecDepth 20000 in
theorem ggL_law_X9_changeWeight : GoodIn wsL_law wsX9_changeWeight := goodIn_r _ [698, 115, 440, 441, 5, 442, 189, 190, 191, 192, 193, 194, 195, 699, 700, 701, 702, 107, 446, 447, 448, 449, 212, 213, 214, 215, 216, 217, 218, 219, 220, 109, 680, 681, 682, 683, 1538, 1539, 1540, 1541, 1542, 1543, 1544, 1545, 1546, 1547, 1548, 1549, 1550] (by decide +kernel) (by decide +kernel)
set_option maxRecDepth 20000 in
theorem gL_law_X9_changeWeight : GoodIn wsL_law (wsV RL 233 RX9 yX9_changeWeight wsX9_changeWeight) := goodIn_app (goodIn_of _ (by decide +kernel)) ggL_law_X9_changeWeight
set_option maxRecDepth 20000 in
theorem ggL_law_X8_turnRule : GoodIn wsL_law wsX8_turnRule := goodIn_r _ [706, 21, 16, 154, 20, 155, 156, 84, 86, 85, 14, 15, 157, 158, 159, 160, 29, 30, 31, 11, 12, 32, 33, 34, 35, 36, 37, 38, 39, 40, 41, 42, 43, 44, 45, 46, 47, 48, 49, 50, 51, 52, 53, 26, 54, 55, 56, 57, 58, 59, 60, 61, 62, 63, 64, 65, 66, 67, 68, 69, 70, 71, 72, 73, 74, 75, 76, 77, 78, 79, 80, 161, 162, 163, 164, 165, 166, 167, 168, 169, 170, 171, 172, 173, 174, 175, 176, 177, 178, 179, 180, 181, 1532, 1533, 1534, 1535, 1536, 1537, 1551, 1552, 1553, 1554, 1555, 1568, 1569, 1570, 1571, 1572, 1573, 1574, 1556, 1557, 1558, 1562, 1563, 1564, 1565, 1566, 1567, 1575, 1576, 1577, 1578, 1579, 1580] (by decide +kernel) (by decide +kernel)
set_option maxRecDepth 20000 in
theorem gL_law_X8_turnRule : GoodIn wsL_law (wsV RL 234 RX8 yX8_turnRule wsX8_turnRule) := goodIn_app (goodIn_of _ (by decide +kernel)) ggL_law_X8_turnRule
set_option maxRecDepth 20000 in
theorem ggL_law_X9_turnRule : GoodIn wsL_law wsX9_turnRule := goodIn_r _ [710, 115, 107, 216, 217, 218, 5, 219, 220, 109, 1538, 1539, 1540, 1541, 1542, 1543, 1544, 1545, 1546, 1547, 1548, 1549, 1550] (by decide +kernel) (by decide +kernel)
set_option maxRecDepth 20000 in
theorem gL_law_X9_turnRule : GoodIn wsL_law (wsV RL 238 RX9 yX9_turnRule wsX9_turnRule) := goodIn_app (goodIn_of _ (by decide +kernel)) ggL_law_X9_turnRule
set_option maxRecDepth 20000 in
theorem ggL_law_L_append : GoodIn wsL_law wsL_append := goodIn_ca (goodIn_ca (goodIn_r _ [713, 120, 121, 714, 715, 716, 2, 717, 132, 133, 126, 127, 25, 1532, 1533, 1534, 1535, 1536, 1537, 1559, 1560, 1561] (by decide +kernel) (by decide +kernel)) (goodIn_sub (fun _ h => List.mem_append_left _ (List.mem_append_right _ h)) (by decide +kernel))) (goodIn_sub (fun _ h => List.mem_append_left _ (List.mem_append_left _ (List.mem_append_right _ h))) (by decide +kernel))
set_option maxRecDepth 20000 in
theorem gL_law_L_append : GoodIn wsL_law (va_wsS RL 239 yL_append wsL_append) := goodIn_app (goodIn_of _ (by decide +kernel)) ggL_law_L_append
set_option maxRecDepth 20000 in
theorem ggL_law_X9_append : GoodIn wsL_law wsX9_append := goodIn_r _ [721, 115, 507, 112, 189, 190, 5, 191, 192, 193, 194, 195, 1538, 1539, 1540, 1541, 1542, 1543, 1544, 1545, 1546, 1547, 1548, 1549, 1550] (by decide +kernel) (by decide +kernel)
set_option maxRecDepth 20000 in
theorem gL_law_X9_append : GoodIn wsL_law (wsV RL 241 RX9 yX9_append wsX9_append) := goodIn_app (goodIn_of _ (by decide +kernel)) ggL_law_X9_append
set_option maxRecDepth 20000 in
theorem ggL_law_X8_clearBuffer : GoodIn wsL_law wsX8_clearBuffer := goodIn_r _ [725, 25, 1532, 1533, 1534, 1535, 1536, 1537, 1559, 1560, 1561] (by decide +kernel) (by decide +kernel)
set_option maxRecDepth 20000 in
theorem gL_law_X8_clearBuffer : GoodIn wsL_law (wsV RL 242 RX8 yX8_clearBuffer wsX8_clearBuffer) := goodIn_app (goodIn_of _ (by decide +kernel)) ggL_law_X8_clearBuffer
set_option maxRecDepth 20000 in
theorem ggL_law_X9_clearBuffer : GoodIn wsL_law wsX9_clearBuffer := goodIn_r _ [729, 115, 507, 1538, 1539, 1540, 1541, 1542, 1543, 1544, 1545, 1546, 1547, 1548, 1549, 1550] (by decide +kernel) (by decide +kernel)
set_option maxRecDepth 20000 in
theorem gL_law_X9_clearBuffer : GoodIn wsL_law (wsV RL 245 RX9 yX9_clearBuffer wsX9_clearBuffer) := goodIn_app (goodIn_of _ (by decide +kernel)) ggL_law_X9_clearBuffer
set_option maxRecDepth 20000 in
theorem ggL_law_X8_firstError : GoodIn wsL_law wsX8_firstError := goodIn_r _ [733, 25, 476, 24, 477, 478, 96, 91, 92, 479, 95, 480, 481, 100, 101, 102, 482, 483, 484, 485, 486, 487, 488, 489, 490, 491, 492, 493, 494, 495, 496, 1532, 1533, 1534, 1535, 1536, 1537, 1559, 1560, 1561, 1581, 1582, 1583] (by decide +kernel) (by decide +kernel)
set_option maxRecDepth 20000 in
theorem gL_law_X8_firstError : GoodIn wsL_law (wsV RL 246 RX8 yX8_firstError wsX8_firstError) := goodIn_app (goodIn_of _ (by decide +kernel)) ggL_law_X8_firstError
set_option maxRecDepth 20000 in
theorem ggL_law_X9_firstError : GoodIn wsL_law wsX9_firstError := goodIn_r _ [737, 115, 507, 512, 508, 509, 510, 5, 511, 513, 113, 514, 515, 516, 517, 518, 519, 520, 521, 522, 523, 524, 525, 112, 189, 190, 191, 1538, 1539, 1540, 1541, 1542, 1543, 1544, 1545, 1546, 1547, 1548, 1549, 1550] (by decide +kernel) (by decide +kernel)
set_option maxRecDepth 20000 in
theorem gL_law_X9_firstError : GoodIn wsL_law (wsV RL 249 RX9 yX9_firstError wsX9_firstError) := goodIn_app (goodIn_of _ (by decide +kernel)) ggL_law_X9_firstError
set_option maxRecDepth 20000 in
theorem ggL_law_L_keep : GoodIn wsL_law wsL_keep := goodIn_ca (goodIn_r _ [740, 120, 741, 742, 743, 2, 744, 21, 16, 745, 746, 747, 748, 132, 133, 749, 20, 750, 751, 87, 85, 14, 15, 29, 30, 31, 11, 12, 32, 33, 34, 35, 36, 37, 38, 39, 40, 41, 42, 43, 44, 45, 46, 47, 48, 49, 50, 51, 52, 53, 26, 54, 55, 56, 57, 58, 59, 60, 61, 62, 63, 64, 65, 66, 67, 68, 69, 70, 71, 72, 73, 74, 75, 76, 77, 78, 79, 80, 161, 162, 163, 164, 165, 166, 167, 168, 169, 170, 171, 172, 173, 174, 175, 176, 177, 178, 179, 180, 181, 1532, 1533, 1534, 1535, 1536, 1537, 1556, 1557, 1558, 1551, 1552, 1553, 1554, 1555, 1562, 1563, 1564, 1565, 1566, 1567, 1568, 1569, 1570, 1571, 1572, 1573, 1574, 1575, 1576, 1577, 1578, 1579, 1580] (by decide +kernel) (by decide +kernel)) (goodIn_sub (fun _ h => List.mem_append_left _ (List.mem_append_right _ h)) (by decide +kernel))
set_option maxRecDepth 20000 in
theorem gL_law_L_keep : GoodIn wsL_law (va_wsS RL 250 yL_keep wsL_keep) := goodIn_app (goodIn_of _ (by decide +kernel)) ggL_law_L_keep
set_option maxRecDepth 20000 in
theorem ggL_law_X9_keep : GoodIn wsL_law wsX9_keep := goodIn_r _ [755, 115, 110, 107, 111, 189, 190, 5, 191, 1538, 1539, 1540, 1541, 1542, 1543, 1544, 1545, 1546, 1547, 1548, 1549, 1550] (by decide +kernel) (by decide +kernel)
set_option maxRecDepth 20000 in
theorem gL_law_X9_keep : GoodIn wsL_law (wsV RL 253 RX9 yX9_keep wsX9_keep) := goodIn_app (goodIn_of _ (by decide +kernel)) ggL_law_X9_keep
set_option maxRecDepth 20000 in
theorem ggL_law_L_goBack : GoodIn wsL_law wsL_goBack := goodIn_ca (goodIn_ca (goodIn_r _ [758, 120, 121, 759, 760, 761, 2, 762, 126, 127, 21, 16, 745, 746, 747, 748, 132, 133, 154, 20, 155, 156, 84, 86, 85, 14, 15, 157, 158, 159, 160, 29, 30, 31, 11, 12, 32, 33, 34, 35, 36, 37, 38, 39, 40, 41, 42, 43, 44, 45, 46, 47, 48, 49, 50, 51, 52, 53, 26, 54, 55, 56, 57, 58, 59, 60, 61, 62, 63, 64, 65, 66, 67, 68, 69, 70, 71, 72, 73, 74, 75, 76, 77, 78, 79, 80, 161, 162, 163, 164, 165, 166, 167, 168, 169, 170, 171, 172, 173, 174, 175, 176, 177, 178, 179, 180, 181, 1532, 1533, 1534, 1535, 1536, 1537, 1556, 1557, 1558, 1551, 1552, 1553, 1554, 1555, 1562, 1563, 1564, 1565, 1566, 1567, 1568, 1569, 1570, 1571, 1572, 1573, 1574, 1575, 1576, 1577, 1578, 1579, 1580] (by decide +kernel) (by decide +kernel)) (goodIn_sub (fun _ h => List.mem_append_left _ (List.mem_append_left _ (List.mem_append_right _ h))) (by decide +kernel))) (goodIn_sub (fun _ h => List.mem_append_left _ (List.mem_append_right _ h)) (by decide +kernel))
set_option maxRecDepth 20000 in
theorem gL_law_L_goBack : GoodIn wsL_law (va_wsS RL 254 yL_goBack wsL_goBack) := goodIn_app (goodIn_of _ (by decide +kernel)) ggL_law_L_goBack
set_option maxRecDepth 20000 in
theorem ggL_law_X9_goBack : GoodIn wsL_law wsX9_goBack := goodIn_r _ [766, 115, 111, 107, 110, 189, 190, 5, 191, 216, 217, 218, 219, 220, 109, 1538, 1539, 1540, 1541, 1542, 1543, 1544, 1545, 1546, 1547, 1548, 1549, 1550] (by decide +kernel) (by decide +kernel)
set_option maxRecDepth 20000 in
theorem gL_law_X9_goBack : GoodIn wsL_law (wsV RL 256 RX9 yX9_goBack wsX9_goBack) := goodIn_app (goodIn_of _ (by decide +kernel)) ggL_law_X9_goBack
set_option maxRecDepth 20000 in
theorem ggL_law_L_undo : GoodIn wsL_law wsL_undo := goodIn_ca (goodIn_r _ [769, 121, 770, 771, 772, 2, 773, 126, 127, 21, 16, 774, 20, 775, 776, 84, 86, 161, 15, 162, 163, 35, 39, 43, 47, 48, 164, 34, 165, 166, 52, 53, 54, 167, 168, 169, 170, 55, 56, 57, 171, 38, 172, 173, 61, 62, 63, 64, 65, 66, 68, 174, 42, 175, 176, 72, 177, 73, 74, 75, 178, 46, 179, 180, 79, 80, 181, 1532, 1533, 1534, 1535, 1536, 1537, 1556, 1557, 1558, 1551, 1552, 1553, 1554, 1555, 1562, 1563, 1564, 1565, 1566, 1567, 1568, 1569, 1570, 1571, 1572, 1573, 1574, 1575, 1576, 1577, 1578, 1579, 1580] (by decide +kernel) (by decide +kernel)) (goodIn_sub (fun _ h => List.mem_append_left _ (List.mem_append_left _ (List.mem_append_right _ h))) (by decide +kernel))
set_option maxRecDepth 20000 in
theorem gL_law_L_undo : GoodIn wsL_law (va_wsS RL 257 yL_undo wsL_undo) := goodIn_app (goodIn_of _ (by decide +kernel)) ggL_law_L_undo
set_option maxRecDepth 20000 in
theorem ggL_law_X9_undo : GoodIn wsL_law wsX9_undo := goodIn_r _ [780, 115, 220, 107, 109, 1538, 1539, 1540, 1541, 1542, 1543, 1544, 1545, 1546, 1547, 1548, 1549, 1550] (by decide +kernel) (by decide +kernel)
set_option maxRecDepth 20000 in
theorem gL_law_X9_undo : GoodIn wsL_law (wsV RL 260 RX9 yX9_undo wsX9_undo) := goodIn_app (goodIn_of _ (by decide +kernel)) ggL_law_X9_undo
set_option maxRecDepth 20000 in
theorem ggL_law_X8_savedStates : GoodIn wsL_law wsX8_savedStates := goodIn_r _ [784, 21, 1532, 1533, 1534, 1535, 1536, 1537, 1556, 1557, 1558] (by decide +kernel) (by decide +kernel)
set_option maxRecDepth 20000 in
theorem gL_law_X8_savedStates : GoodIn wsL_law (wsV RL 261 RX8 yX8_savedStates wsX8_savedStates) := goodIn_app (goodIn_of _ (by decide +kernel)) ggL_law_X8_savedStates
set_option maxRecDepth 20000 in
theorem ggL_law_X9_savedStates : GoodIn wsL_law wsX9_savedStates := goodIn_r _ [788, 115, 220, 1538, 1539, 1540, 1541, 1542, 1543, 1544, 1545, 1546, 1547, 1548, 1549, 1550] (by decide +kernel) (by decide +kernel)
set_option maxRecDepth 20000 in
theorem gL_law_X9_savedStates : GoodIn wsL_law (wsV RL 264 RX9 yX9_savedStates wsX9_savedStates) := goodIn_app (goodIn_of _ (by decide +kernel)) ggL_law_X9_savedStates
set_option maxRecDepth 20000 in
theorem ggL_law_X8_shelves : GoodIn wsL_law wsX8_shelves := goodIn_r _ [792, 16, 1532, 1533, 1534, 1535, 1536, 1537, 1551, 1552, 1553, 1554, 1555, 1562, 1563, 1564, 1565, 1566, 1567] (by decide +kernel) (by decide +kernel)
set_option maxRecDepth 20000 in
theorem gL_law_X8_shelves : GoodIn wsL_law (wsV RL 265 RX8 yX8_shelves wsX8_shelves) := goodIn_app (goodIn_of _ (by decide +kernel)) ggL_law_X8_shelves
set_option maxRecDepth 20000 in
theorem ggL_law_X9_shelves : GoodIn wsL_law wsX9_shelves := goodIn_r _ [796, 115, 107, 1538, 1539, 1540, 1541, 1542, 1543, 1544, 1545, 1546, 1547, 1548, 1549, 1550] (by decide +kernel) (by decide +kernel)
set_option maxRecDepth 20000 in
theorem gL_law_X9_shelves : GoodIn wsL_law (wsV RL 268 RX9 yX9_shelves wsX9_shelves) := goodIn_app (goodIn_of _ (by decide +kernel)) ggL_law_X9_shelves
set_option maxRecDepth 20000 in
theorem ggL_law_L_heightOf : GoodIn wsL_law wsL_heightOf := goodIn_ca (goodIn_r _ [799, 236, 800, 801, 802, 2, 803, 16, 241, 242, 243, 244, 245, 246, 1532, 1533, 1534, 1535, 1536, 1537, 1551, 1552, 1553, 1554, 1555, 1562, 1563, 1564, 1565, 1566, 1567] (by decide +kernel) (by decide +kernel)) (goodIn_sub (fun _ h => List.mem_append_right _ h) (by decide +kernel))
set_option maxRecDepth 20000 in
theorem gL_law_L_heightOf : GoodIn wsL_law (va_wsS RL 269 yL_heightOf wsL_heightOf) := goodIn_app (goodIn_of _ (by decide +kernel)) ggL_law_L_heightOf
set_option maxRecDepth 20000 in
theorem ggL_law_X9_heightOf : GoodIn wsL_law wsX9_heightOf := goodIn_r _ [807, 808, 809, 810, 5, 811, 115, 261, 262, 263, 264, 107, 189, 190, 191, 212, 213, 214, 215, 192, 193, 194, 195, 1538, 1539, 1540, 1541, 1542, 1543, 1544, 1545, 1546, 1547, 1548, 1549, 1550] (by decide +kernel) (by decide +kernel)
set_option maxRecDepth 20000 in
theorem gL_law_X9_heightOf : GoodIn wsL_law (wsV RL 271 RX9 yX9_heightOf wsX9_heightOf) := goodIn_app (goodIn_of _ (by decide +kernel)) ggL_law_X9_heightOf
set_option maxRecDepth 20000 in
theorem ggL_law_L_sideOf : GoodIn wsL_law wsL_sideOf := goodIn_ca (goodIn_r _ [814, 236, 815, 816, 817, 2, 818, 16, 241, 242, 243, 244, 245, 246, 1532, 1533, 1534, 1535, 1536, 1537, 1551, 1552, 1553, 1554, 1555, 1562, 1563, 1564, 1565, 1566, 1567] (by decide +kernel) (by decide +kernel)) (goodIn_sub (fun _ h => List.mem_append_right _ h) (by decide +kernel))
set_option maxRecDepth 20000 in
theorem gL_law_L_sideOf : GoodIn wsL_law (va_wsS RL 272 yL_sideOf wsL_sideOf) := goodIn_app (goodIn_of _ (by decide +kernel)) ggL_law_L_sideOf
set_option maxRecDepth 20000 in
theorem ggL_law_X9_sideOf : GoodIn wsL_law wsX9_sideOf := goodIn_r _ [822, 808, 809, 810, 5, 811, 115, 261, 262, 263, 264, 107, 189, 190, 191, 212, 213, 214, 215, 192, 193, 194, 195, 1538, 1539, 1540, 1541, 1542, 1543, 1544, 1545, 1546, 1547, 1548, 1549, 1550] (by decide +kernel) (by decide +kernel)
set_option maxRecDepth 20000 in
theorem gL_law_X9_sideOf : GoodIn wsL_law (wsV RL 274 RX9 yX9_sideOf wsX9_sideOf) := goodIn_app (goodIn_of _ (by decide +kernel)) ggL_law_X9_sideOf
set_option maxRecDepth 20000 in
theorem ggL_law_L_slotOf : GoodIn wsL_law wsL_slotOf := goodIn_ca (goodIn_r _ [825, 236, 826, 827, 828, 2, 829, 16, 241, 242, 243, 244, 245, 246, 1532, 1533, 1534, 1535, 1536, 1537, 1551, 1552, 1553, 1554, 1555, 1562, 1563, 1564, 1565, 1566, 1567] (by decide +kernel) (by decide +kernel)) (goodIn_sub (fun _ h => List.mem_append_right _ h) (by decide +kernel))
set_option maxRecDepth 20000 in
theorem gL_law_L_slotOf : GoodIn wsL_law (va_wsS RL 275 yL_slotOf wsL_slotOf) := goodIn_app (goodIn_of _ (by decide +kernel)) ggL_law_L_slotOf
set_option maxRecDepth 20000 in
theorem ggL_law_X9_slotOf : GoodIn wsL_law wsX9_slotOf := goodIn_r _ [833, 808, 809, 810, 5, 811, 115, 261, 262, 263, 264, 107, 189, 190, 191, 212, 213, 214, 215, 192, 193, 194, 195, 1538, 1539, 1540, 1541, 1542, 1543, 1544, 1545, 1546, 1547, 1548, 1549, 1550] (by decide +kernel) (by decide +kernel)
set_option maxRecDepth 20000 in
theorem gL_law_X9_slotOf : GoodIn wsL_law (wsV RL 277 RX9 yX9_slotOf wsX9_slotOf) := goodIn_app (goodIn_of _ (by decide +kernel)) ggL_law_X9_slotOf
set_option maxRecDepth 20000 in
theorem ggL_law_L_isAtWindow : GoodIn wsL_law wsL_isAtWindow := goodIn_ca (goodIn_r _ [836, 236, 837, 838, 839, 2, 840, 16, 241, 242, 243, 244, 245, 246, 1532, 1533, 1534, 1535, 1536, 1537, 1551, 1552, 1553, 1554, 1555, 1562, 1563, 1564, 1565, 1566, 1567] (by decide +kernel) (by decide +kernel)) (goodIn_sub (fun _ h => List.mem_append_right _ h) (by decide +kernel))
set_option maxRecDepth 20000 in
theorem gL_law_L_isAtWindow : GoodIn wsL_law (va_wsS RL 278 yL_isAtWindow wsL_isAtWindow) := goodIn_app (goodIn_of _ (by decide +kernel)) ggL_law_L_isAtWindow
set_option maxRecDepth 20000 in
theorem ggL_law_X9_isAtWindow : GoodIn wsL_law wsX9_isAtWindow := goodIn_r _ [844, 115, 107, 261, 262, 263, 5, 264, 189, 190, 191, 192, 193, 194, 195, 1538, 1539, 1540, 1541, 1542, 1543, 1544, 1545, 1546, 1547, 1548, 1549, 1550] (by decide +kernel) (by decide +kernel)
set_option maxRecDepth 20000 in
theorem gL_law_X9_isAtWindow : GoodIn wsL_law (wsV RL 280 RX9 yX9_isAtWindow wsX9_isAtWindow) := goodIn_app (goodIn_of _ (by decide +kernel)) ggL_law_X9_isAtWindow
set_option maxRecDepth 20000 in
theorem ggL_law_L_thingsIn : GoodIn wsL_law wsL_thingsIn := goodIn_ca (goodIn_r _ [847, 236, 848, 849, 850, 2, 851, 16, 241, 242, 243, 244, 245, 246, 422, 423, 424, 425, 251, 34, 252, 253, 57, 1532, 1533, 1534, 1535, 1536, 1537, 1551, 1552, 1553, 1554, 1555, 1562, 1563, 1564, 1565, 1566, 1567] (by decide +kernel) (by decide +kernel)) (goodIn_sub (fun _ h => List.mem_append_right _ h) (by decide +kernel))
set_option maxRecDepth 20000 in
theorem gL_law_L_thingsIn : GoodIn wsL_law (va_wsS RL 281 yL_thingsIn wsL_thingsIn) := goodIn_app (goodIn_of _ (by decide +kernel)) ggL_law_L_thingsIn
set_option maxRecDepth 20000 in
theorem ggL_law_X9_thingsIn : GoodIn wsL_law wsX9_thingsIn := goodIn_r _ [855, 115, 261, 262, 263, 5, 264, 107, 189, 190, 191, 440, 441, 442, 212, 213, 214, 215, 192, 193, 194, 195, 1538, 1539, 1540, 1541, 1542, 1543, 1544, 1545, 1546, 1547, 1548, 1549, 1550] (by decide +kernel) (by decide +kernel)
set_option maxRecDepth 20000 in
theorem gL_law_X9_thingsIn : GoodIn wsL_law (wsV RL 283 RX9 yX9_thingsIn wsX9_thingsIn) := goodIn_app (goodIn_of _ (by decide +kernel)) ggL_law_X9_thingsIn
set_option maxRecDepth 20000 in
theorem ggL_law_L_weightOf : GoodIn wsL_law wsL_weightOf := goodIn_ca (goodIn_r _ [858, 236, 859, 860, 861, 2, 862, 16, 241, 242, 243, 244, 245, 246, 430, 15, 431, 432, 35, 43, 251, 34, 252, 253, 57, 1532, 1533, 1534, 1535, 1536, 1537, 1551, 1552, 1553, 1554, 1555, 1562, 1563, 1564, 1565, 1566, 1567, 1575, 1576, 1577, 1578] (by decide +kernel) (by decide +kernel)) (goodIn_sub (fun _ h => List.mem_append_right _ h) (by decide +kernel))
set_option maxRecDepth 20000 in
theorem gL_law_L_weightOf : GoodIn wsL_law (va_wsS RL 284 yL_weightOf wsL_weightOf) := goodIn_app (goodIn_of _ (by decide +kernel)) ggL_law_L_weightOf
set_option maxRecDepth 20000 in
theorem ggL_law_X9_weightOf : GoodIn wsL_law wsX9_weightOf := goodIn_r _ [866, 115, 261, 262, 263, 5, 264, 107, 189, 190, 191, 446, 447, 448, 449, 212, 213, 214, 215, 192, 193, 194, 195, 1538, 1539, 1540, 1541, 1542, 1543, 1544, 1545, 1546, 1547, 1548, 1549, 1550] (by decide +kernel) (by decide +kernel)
set_option maxRecDepth 20000 in
theorem gL_law_X9_weightOf : GoodIn wsL_law (wsV RL 286 RX9 yX9_weightOf wsX9_weightOf) := goodIn_app (goodIn_of _ (by decide +kernel)) ggL_law_X9_weightOf
set_option maxRecDepth 20000 in
theorem ggL_law_L_fetchesOf : GoodIn wsL_law wsL_fetchesOf := goodIn_ca (goodIn_r _ [869, 236, 870, 871, 872, 2, 873, 16, 241, 242, 243, 244, 245, 246, 1532, 1533, 1534, 1535, 1536, 1537, 1551, 1552, 1553, 1554, 1555, 1562, 1563, 1564, 1565, 1566, 1567] (by decide +kernel) (by decide +kernel)) (goodIn_sub (fun _ h => List.mem_append_right _ h) (by decide +kernel))
set_option maxRecDepth 20000 in
theorem gL_law_L_fetchesOf : GoodIn wsL_law (va_wsS RL 287 yL_fetchesOf wsL_fetchesOf) := goodIn_app (goodIn_of _ (by decide +kernel)) ggL_law_L_fetchesOf
set_option maxRecDepth 20000 in
theorem ggL_law_X9_fetchesOf : GoodIn wsL_law wsX9_fetchesOf := goodIn_r _ [877, 808, 809, 810, 5, 811, 115, 261, 262, 263, 264, 107, 189, 190, 191, 212, 213, 214, 215, 192, 193, 194, 195, 1538, 1539, 1540, 1541, 1542, 1543, 1544, 1545, 1546, 1547, 1548, 1549, 1550] (by decide +kernel) (by decide +kernel)
set_option maxRecDepth 20000 in
theorem gL_law_X9_fetchesOf : GoodIn wsL_law (wsV RL 289 RX9 yX9_fetchesOf wsX9_fetchesOf) := goodIn_app (goodIn_of _ (by decide +kernel)) ggL_law_X9_fetchesOf
set_option maxRecDepth 20000 in
theorem ggL_law_L_atWindow : GoodIn wsL_law wsL_atWindow := goodIn_ca (goodIn_r _ [880, 121, 881, 882, 883, 2, 884, 16, 322, 323, 324, 325, 126, 127, 1532, 1533, 1534, 1535, 1536, 1537, 1551, 1552, 1553, 1554, 1555, 1562, 1563, 1564, 1565, 1566, 1567] (by decide +kernel) (by decide +kernel)) (goodIn_sub (fun _ h => List.mem_append_left _ (List.mem_append_left _ (List.mem_append_right _ h))) (by decide +kernel))
set_option maxRecDepth 20000 in
theorem gL_law_L_atWindow : GoodIn wsL_law (va_wsS RL 290 yL_atWindow wsL_atWindow) := goodIn_app (goodIn_of _ (by decide +kernel)) ggL_law_L_atWindow
set_option maxRecDepth 20000 in
theorem ggL_law_X9_atWindow : GoodIn wsL_law wsX9_atWindow := goodIn_r _ [888, 115, 107, 196, 197, 198, 5, 199, 192, 193, 194, 195, 1538, 1539, 1540, 1541, 1542, 1543, 1544, 1545, 1546, 1547, 1548, 1549, 1550] (by decide +kernel) (by decide +kernel)
set_option maxRecDepth 20000 in
theorem gL_law_X9_atWindow : GoodIn wsL_law (wsV RL 292 RX9 yX9_atWindow wsX9_atWindow) := goodIn_app (goodIn_of _ (by decide +kernel)) ggL_law_X9_atWindow
set_option maxRecDepth 20000 in
theorem ggL_law_L_isFree : GoodIn wsL_law wsL_isFree := goodIn_ca (goodIn_r _ [891, 236, 892, 893, 894, 2, 895, 16, 352, 353, 354, 355, 245, 246, 356, 357, 358, 359, 896, 34, 897, 898, 52, 53, 55, 54, 1532, 1533, 1534, 1535, 1536, 1537, 1551, 1552, 1553, 1554, 1555, 1562, 1563, 1564, 1565, 1566, 1567] (by decide +kernel) (by decide +kernel)) (goodIn_sub (fun _ h => List.mem_append_right _ h) (by decide +kernel))
set_option maxRecDepth 20000 in
theorem gL_law_L_isFree : GoodIn wsL_law (va_wsS RL 293 yL_isFree wsL_isFree) := goodIn_app (goodIn_of _ (by decide +kernel)) ggL_law_L_isFree
set_option maxRecDepth 20000 in
theorem ggL_law_X9_isFree : GoodIn wsL_law wsX9_isFree := goodIn_r _ [902, 115, 364, 365, 5, 366, 189, 190, 191, 208, 209, 210, 211, 107, 212, 213, 214, 215, 192, 193, 194, 195, 1538, 1539, 1540, 1541, 1542, 1543, 1544, 1545, 1546, 1547, 1548, 1549, 1550] (by decide +kernel) (by decide +kernel)
set_option maxRecDepth 20000 in
theorem gL_law_X9_isFree : GoodIn wsL_law (wsV RL 295 RX9 yX9_isFree wsX9_isFree) := goodIn_app (goodIn_of _ (by decide +kernel)) ggL_law_X9_isFree
set_option maxRecDepth 20000 in
theorem ggL_law_L_shelfAt : GoodIn wsL_law wsL_shelfAt := goodIn_ca (goodIn_ca (goodIn_r _ [905, 236, 121, 906, 907, 908, 2, 909, 126, 127, 16, 352, 353, 354, 355, 245, 246, 356, 357, 358, 359, 896, 34, 897, 898, 52, 53, 55, 54, 1532, 1533, 1534, 1535, 1536, 1537, 1551, 1552, 1553, 1554, 1555, 1562, 1563, 1564, 1565, 1566, 1567] (by decide +kernel) (by decide +kernel)) (goodIn_sub (fun _ h => List.mem_append_left _ (List.mem_append_left _ (List.mem_append_right _ h))) (by decide +kernel))) (goodIn_sub (fun _ h => List.mem_append_right _ h) (by decide +kernel))
set_option maxRecDepth 20000 in
theorem gL_law_L_shelfAt : GoodIn wsL_law (va_wsS RL 296 yL_shelfAt wsL_shelfAt) := goodIn_app (goodIn_of _ (by decide +kernel)) ggL_law_L_shelfAt
set_option maxRecDepth 20000 in
theorem ggL_law_X9_shelfAt : GoodIn wsL_law wsX9_shelfAt := goodIn_r _ [913, 115, 364, 365, 5, 366, 189, 190, 191, 192, 193, 194, 195, 208, 209, 210, 211, 107, 212, 213, 214, 215, 1538, 1539, 1540, 1541, 1542, 1543, 1544, 1545, 1546, 1547, 1548, 1549, 1550] (by decide +kernel) (by decide +kernel)
set_option maxRecDepth 20000 in
theorem gL_law_X9_shelfAt : GoodIn wsL_law (wsV RL 298 RX9 yX9_shelfAt wsX9_shelfAt) := goodIn_app (goodIn_of _ (by decide +kernel)) ggL_law_X9_shelfAt
set_option maxRecDepth 20000 in
theorem ggL_law_X8_freeBySlots : GoodIn wsL_law wsX8_freeBySlots := goodIn_r _ [917, 16, 918, 34, 919, 920, 141, 142, 143, 144, 52, 53, 55, 54, 145, 146, 147, 151, 152, 153, 1532, 1533, 1534, 1535, 1536, 1537, 1551, 1552, 1553, 1554, 1555, 1562, 1563, 1564, 1565, 1566, 1567] (by decide +kernel) (by decide +kernel)
set_option maxRecDepth 20000 in
theorem gL_law_X8_freeBySlots : GoodIn wsL_law (wsV RL 299 RX8 yX8_freeBySlots wsX8_freeBySlots) := goodIn_app (goodIn_of _ (by decide +kernel)) ggL_law_X8_freeBySlots
set_option maxRecDepth 20000 in
theorem ggL_law_X9_freeBySlots : GoodIn wsL_law wsX9_freeBySlots := goodIn_r _ [924, 115, 925, 926, 927, 5, 928, 208, 209, 210, 211, 107, 212, 213, 214, 215, 189, 190, 191, 1538, 1539, 1540, 1541, 1542, 1543, 1544, 1545, 1546, 1547, 1548, 1549, 1550] (by decide +kernel) (by decide +kernel)
set_option maxRecDepth 20000 in
theorem gL_law_X9_freeBySlots : GoodIn wsL_law (wsV RL 302 RX9 yX9_freeBySlots wsX9_freeBySlots) := goodIn_app (goodIn_of _ (by decide +kernel)) ggL_law_X9_freeBySlots
set_option maxRecDepth 20000 in
theorem ggL_law_X8_freeByHeights : GoodIn wsL_law wsX8_freeByHeights := goodIn_r _ [932, 16, 933, 34, 934, 935, 52, 53, 54, 1532, 1533, 1534, 1535, 1536, 1537, 1551, 1552, 1553, 1554, 1555, 1562, 1563, 1564, 1565, 1566, 1567] (by decide +kernel) (by decide +kernel)
set_option maxRecDepth 20000 in
theorem gL_law_X8_freeByHeights : GoodIn wsL_law (wsV RL 303 RX8 yX8_freeByHeights wsX8_freeByHeights) := goodIn_app (goodIn_of _ (by decide +kernel)) ggL_law_X8_freeByHeights
set_option maxRecDepth 20000 in
theorem ggL_law_X9_freeByHeights : GoodIn wsL_law wsX9_freeByHeights := goodIn_r _ [939, 115, 925, 926, 927, 5, 928, 208, 209, 210, 211, 107, 212, 213, 214, 215, 189, 190, 191, 1538, 1539, 1540, 1541, 1542, 1543, 1544, 1545, 1546, 1547, 1548, 1549, 1550] (by decide +kernel) (by decide +kernel)
set_option maxRecDepth 20000 in
theorem gL_law_X9_freeByHeights : GoodIn wsL_law (wsV RL 306 RX9 yX9_freeByHeights wsX9_freeByHeights) := goodIn_app (goodIn_of _ (by decide +kernel)) ggL_law_X9_freeByHeights
set_option maxRecDepth 20000 in
theorem ggL_law_L_firstPlace : GoodIn wsL_law wsL_firstPlace := goodIn_ca (goodIn_ca (goodIn_r _ [942, 120, 121, 943, 944, 945, 2, 946, 126, 127, 16, 128, 129, 130, 131, 132, 133, 138, 34, 139, 140, 141, 142, 143, 144, 52, 53, 55, 54, 145, 146, 147, 148, 149, 150, 151, 152, 153, 1532, 1533, 1534, 1535, 1536, 1537, 1551, 1552, 1553, 1554, 1555, 1562, 1563, 1564, 1565, 1566, 1567] (by decide +kernel) (by decide +kernel)) (goodIn_sub (fun _ h => List.mem_append_left _ (List.mem_append_left _ (List.mem_append_right _ h))) (by decide +kernel))) (goodIn_sub (fun _ h => List.mem_append_left _ (List.mem_append_right _ h)) (by decide +kernel))
set_option maxRecDepth 20000 in
theorem gL_law_L_firstPlace : GoodIn wsL_law (va_wsS RL 307 yL_firstPlace wsL_firstPlace) := goodIn_app (goodIn_of _ (by decide +kernel)) ggL_law_L_firstPlace
set_option maxRecDepth 20000 in
theorem ggL_law_X9_firstPlace : GoodIn wsL_law wsX9_firstPlace := goodIn_r _ [950, 115, 189, 190, 5, 191, 192, 193, 194, 195, 200, 201, 202, 203, 204, 205, 206, 207, 208, 209, 210, 211, 107, 212, 213, 214, 215, 1538, 1539, 1540, 1541, 1542, 1543, 1544, 1545, 1546, 1547, 1548, 1549, 1550] (by decide +kernel) (by decide +kernel)
set_option maxRecDepth 20000 in
theorem gL_law_X9_firstPlace : GoodIn wsL_law (wsV RL 309 RX9 yX9_firstPlace wsX9_firstPlace) := goodIn_app (goodIn_of _ (by decide +kernel)) ggL_law_X9_firstPlace
set_option maxRecDepth 20000 in
theorem ggL_law_L_longestGap : GoodIn wsL_law wsL_longestGap := goodIn_ca (goodIn_r _ [953, 236, 954, 955, 956, 2, 957, 16, 356, 357, 358, 359, 245, 246, 958, 34, 959, 960, 961, 962, 285, 963, 141, 142, 143, 144, 52, 53, 55, 54, 145, 146, 147, 151, 152, 153, 1532, 1533, 1534, 1535, 1536, 1537, 1551, 1552, 1553, 1554, 1555, 1562, 1563, 1564, 1565, 1566, 1567] (by decide +kernel) (by decide +kernel)) (goodIn_sub (fun _ h => List.mem_append_right _ h) (by decide +kernel))
set_option maxRecDepth 20000 in
theorem gL_law_L_longestGap : GoodIn wsL_law (va_wsS RL 310 yL_longestGap wsL_longestGap) := goodIn_app (goodIn_of _ (by decide +kernel)) ggL_law_L_longestGap
set_option maxRecDepth 20000 in
theorem ggL_law_X9_longestGap : GoodIn wsL_law wsX9_longestGap := goodIn_r _ [967, 115, 189, 190, 5, 191, 968, 969, 970, 971, 208, 209, 210, 211, 107, 212, 213, 214, 215, 192, 193, 194, 195, 1538, 1539, 1540, 1541, 1542, 1543, 1544, 1545, 1546, 1547, 1548, 1549, 1550] (by decide +kernel) (by decide +kernel)
set_option maxRecDepth 20000 in
theorem gL_law_X9_longestGap : GoodIn wsL_law (wsV RL 312 RX9 yX9_longestGap wsX9_longestGap) := goodIn_app (goodIn_of _ (by decide +kernel)) ggL_law_X9_longestGap
set_option maxRecDepth 20000 in
theorem ggL_law_X8_lift : GoodIn wsL_law wsX8_lift := goodIn_r _ [975, 16, 1532, 1533, 1534, 1535, 1536, 1537, 1551, 1552, 1553, 1554, 1555, 1568, 1569, 1570, 1571, 1572, 1573, 1574] (by decide +kernel) (by decide +kernel)
set_option maxRecDepth 20000 in
theorem gL_law_X8_lift : GoodIn wsL_law (wsV RL 313 RX8 yX8_lift wsX8_lift) := goodIn_app (goodIn_of _ (by decide +kernel)) ggL_law_X8_lift
set_option maxRecDepth 20000 in
theorem ggL_law_X9_lift : GoodIn wsL_law wsX9_lift := goodIn_r _ [979, 115, 107, 1538, 1539, 1540, 1541, 1542, 1543, 1544, 1545, 1546, 1547, 1548, 1549, 1550] (by decide +kernel) (by decide +kernel)
set_option maxRecDepth 20000 in
theorem gL_law_X9_lift : GoodIn wsL_law (wsV RL 316 RX9 yX9_lift wsX9_lift) := goodIn_app (goodIn_of _ (by decide +kernel)) ggL_law_X9_lift
set_option maxRecDepth 20000 in
theorem ggL_law_X8_isKeptPlace : GoodIn wsL_law wsX8_isKeptPlace := goodIn_r _ [983, 16, 1532, 1533, 1534, 1535, 1536, 1537, 1551, 1552, 1553, 1554, 1555, 1568, 1569, 1570, 1571, 1572, 1573, 1574] (by decide +kernel) (by decide +kernel)
set_option maxRecDepth 20000 in
theorem gL_law_X8_isKeptPlace : GoodIn wsL_law (wsV RL 317 RX8 yX8_isKeptPlace wsX8_isKeptPlace) := goodIn_app (goodIn_of _ (by decide +kernel)) ggL_law_X8_isKeptPlace
set_option maxRecDepth 20000 in
theorem ggL_law_X9_isKeptPlace : GoodIn wsL_law wsX9_isKeptPlace := goodIn_r _ [987, 115, 107, 1538, 1539, 1540, 1541, 1542, 1543, 1544, 1545, 1546, 1547, 1548, 1549, 1550] (by decide +kernel) (by decide +kernel)
set_option maxRecDepth 20000 in
theorem gL_law_X9_isKeptPlace : GoodIn wsL_law (wsV RL 320 RX9 yX9_isKeptPlace wsX9_isKeptPlace) := goodIn_app (goodIn_of _ (by decide +kernel)) ggL_law_X9_isKeptPlace
set_option maxRecDepth 20000 in
theorem ggL_law_L_wouldPack : GoodIn wsL_law wsL_wouldPack := goodIn_ca (goodIn_r _ [990, 121, 991, 992, 993, 2, 994, 16, 27, 374, 375, 376, 377, 126, 127, 134, 135, 136, 137, 378, 34, 379, 380, 52, 54, 381, 382, 383, 384, 56, 148, 149, 150, 151, 152, 153, 145, 146, 147, 385, 386, 387, 55, 1532, 1533, 1534, 1535, 1536, 1537, 1551, 1552, 1553, 1554, 1555, 1562, 1563, 1564, 1565, 1566, 1567] (by decide +kernel) (by decide +kernel)) (goodIn_sub (fun _ h => List.mem_append_left _ (List.mem_append_left _ (List.mem_append_right _ h))) (by decide +kernel))
set_option maxRecDepth 20000 in
theorem gL_law_L_wouldPack : GoodIn wsL_law (va_wsS RL 321 yL_wouldPack wsL_wouldPack) := goodIn_app (goodIn_of _ (by decide +kernel)) ggL_law_L_wouldPack
set_option maxRecDepth 20000 in
theorem ggL_law_X9_wouldPack : GoodIn wsL_law wsX9_wouldPack := goodIn_r _ [998, 115, 196, 197, 198, 5, 199, 107, 395, 396, 397, 398, 399, 400, 401, 402, 108, 403, 404, 405, 406, 221, 222, 223, 224, 407, 408, 409, 410, 212, 213, 214, 215, 200, 201, 202, 203, 204, 205, 206, 207, 208, 209, 210, 211, 189, 190, 191, 225, 226, 227, 228, 411, 412, 413, 414, 192, 193, 194, 195, 1538, 1539, 1540, 1541, 1542, 1543, 1544, 1545, 1546, 1547, 1548, 1549, 1550] (by decide +kernel) (by decide +kernel)
set_option maxRecDepth 20000 in
theorem gL_law_X9_wouldPack : GoodIn wsL_law (wsV RL 323 RX9 yX9_wouldPack wsX9_wouldPack) := goodIn_app (goodIn_of _ (by decide +kernel)) ggL_law_X9_wouldPack
set_option maxRecDepth 20000 in
theorem ggL_law_L_sideWeight : GoodIn wsL_law wsL_sideWeight := goodIn_ca (goodIn_r _ [1001, 236, 1002, 1003, 1004, 2, 1005, 16, 356, 357, 358, 359, 245, 246, 1006, 15, 1007, 1008, 35, 694, 430, 431, 432, 43, 251, 34, 252, 253, 57, 1532, 1533, 1534, 1535, 1536, 1537, 1551, 1552, 1553, 1554, 1555, 1562, 1563, 1564, 1565, 1566, 1567, 1575, 1576, 1577, 1578] (by decide +kernel) (by decide +kernel)) (goodIn_sub (fun _ h => List.mem_append_right _ h) (by decide +kernel))
set_option maxRecDepth 20000 in
theorem gL_law_L_sideWeight : GoodIn wsL_law (va_wsS RL 324 yL_sideWeight wsL_sideWeight) := goodIn_app (goodIn_of _ (by decide +kernel)) ggL_law_L_sideWeight
set_option maxRecDepth 20000 in
theorem ggL_law_X9_sideWeight : GoodIn wsL_law wsX9_sideWeight := goodIn_r _ [1012, 115, 189, 190, 5, 191, 1013, 1014, 1015, 1016, 107, 212, 213, 214, 215, 446, 447, 448, 449, 192, 193, 194, 195, 1538, 1539, 1540, 1541, 1542, 1543, 1544, 1545, 1546, 1547, 1548, 1549, 1550] (by decide +kernel) (by decide +kernel)
set_option maxRecDepth 20000 in
theorem gL_law_X9_sideWeight : GoodIn wsL_law (wsV RL 326 RX9 yX9_sideWeight wsX9_sideWeight) := goodIn_app (goodIn_of _ (by decide +kernel)) ggL_law_X9_sideWeight
set_option maxRecDepth 20000 in
theorem ggL_law_X8_trips : GoodIn wsL_law wsX8_trips := goodIn_r _ [1020, 16, 1532, 1533, 1534, 1535, 1536, 1537, 1551, 1552, 1553, 1554, 1555, 1568, 1569, 1570, 1571, 1572, 1573, 1574] (by decide +kernel) (by decide +kernel)
set_option maxRecDepth 20000 in
theorem gL_law_X8_trips : GoodIn wsL_law (wsV RL 327 RX8 yX8_trips wsX8_trips) := goodIn_app (goodIn_of _ (by decide +kernel)) ggL_law_X8_trips
set_option maxRecDepth 20000 in
theorem ggL_law_X9_trips : GoodIn wsL_law wsX9_trips := goodIn_r _ [1024, 115, 107, 1538, 1539, 1540, 1541, 1542, 1543, 1544, 1545, 1546, 1547, 1548, 1549, 1550] (by decide +kernel) (by decide +kernel)
set_option maxRecDepth 20000 in
theorem gL_law_X9_trips : GoodIn wsL_law (wsV RL 330 RX9 yX9_trips wsX9_trips) := goodIn_app (goodIn_of _ (by decide +kernel)) ggL_law_X9_trips
set_option maxRecDepth 20000 in
theorem ggL_law_L_tripTicks : GoodIn wsL_law wsL_tripTicks := goodIn_ca (goodIn_r _ [1027, 236, 1028, 1029, 1030, 2, 1031, 16, 1032, 1033, 1034, 1035, 245, 246, 1532, 1533, 1534, 1535, 1536, 1537, 1551, 1552, 1553, 1554, 1555, 1568, 1569, 1570, 1571, 1572, 1573, 1574] (by decide +kernel) (by decide +kernel)) (goodIn_sub (fun _ h => List.mem_append_right _ h) (by decide +kernel))
set_option maxRecDepth 20000 in
theorem gL_law_L_tripTicks : GoodIn wsL_law (va_wsS RL 331 yL_tripTicks wsL_tripTicks) := goodIn_app (goodIn_of _ (by decide +kernel)) ggL_law_L_tripTicks
set_option maxRecDepth 20000 in
theorem ggL_law_X9_tripTicks : GoodIn wsL_law wsX9_tripTicks := goodIn_r _ [1039, 115, 107, 189, 190, 5, 191, 192, 193, 194, 195, 1538, 1539, 1540, 1541, 1542, 1543, 1544, 1545, 1546, 1547, 1548, 1549, 1550] (by decide +kernel) (by decide +kernel)
set_option maxRecDepth 20000 in
theorem gL_law_X9_tripTicks : GoodIn wsL_law (wsV RL 333 RX9 yX9_tripTicks wsX9_tripTicks) := goodIn_app (goodIn_of _ (by decide +kernel)) ggL_law_X9_tripTicks
set_option maxRecDepth 20000 in
theorem ggL_law_L_wasFetch : GoodIn wsL_law wsL_wasFetch := goodIn_ca (goodIn_r _ [1042, 236, 1043, 1044, 1045, 2, 1046, 16, 1032, 1033, 1034, 1035, 245, 246, 1532, 1533, 1534, 1535, 1536, 1537, 1551, 1552, 1553, 1554, 1555, 1568, 1569, 1570, 1571, 1572, 1573, 1574] (by decide +kernel) (by decide +kernel)) (goodIn_sub (fun _ h => List.mem_append_right _ h) (by decide +kernel))
set_option maxRecDepth 20000 in
theorem gL_law_L_wasFetch : GoodIn wsL_law (va_wsS RL 334 yL_wasFetch wsL_wasFetch) := goodIn_app (goodIn_of _ (by decide +kernel)) ggL_law_L_wasFetch
set_option maxRecDepth 20000 in
theorem ggL_law_X9_wasFetch : GoodIn wsL_law wsX9_wasFetch := goodIn_r _ [1050, 115, 107, 189, 190, 5, 191, 192, 193, 194, 195, 1538, 1539, 1540, 1541, 1542, 1543, 1544, 1545, 1546, 1547, 1548, 1549, 1550] (by decide +kernel) (by decide +kernel)
set_option maxRecDepth 20000 in
theorem gL_law_X9_wasFetch : GoodIn wsL_law (wsV RL 336 RX9 yX9_wasFetch wsX9_wasFetch) := goodIn_app (goodIn_of _ (by decide +kernel)) ggL_law_X9_wasFetch
set_option maxRecDepth 20000 in
theorem ggL_law_L_weightOfKind : GoodIn wsL_law wsL_weightOfKind := goodIn_ca (goodIn_r _ [1053, 236, 1054, 1055, 1056, 2, 1057, 16, 422, 423, 424, 425, 245, 246, 1532, 1533, 1534, 1535, 1536, 1537, 1551, 1552, 1553, 1554, 1555, 1575, 1576, 1577, 1578] (by decide +kernel) (by decide +kernel)) (goodIn_sub (fun _ h => List.mem_append_right _ h) (by decide +kernel))
set_option maxRecDepth 20000 in
theorem gL_law_L_weightOfKind : GoodIn wsL_law (va_wsS RL 337 yL_weightOfKind wsL_weightOfKind) := goodIn_app (goodIn_of _ (by decide +kernel)) ggL_law_L_weightOfKind
set_option maxRecDepth 20000 in
theorem ggL_law_X9_weightOfKind : GoodIn wsL_law wsX9_weightOfKind := goodIn_r _ [1061, 115, 107, 440, 441, 5, 442, 189, 190, 191, 192, 193, 194, 195, 1538, 1539, 1540, 1541, 1542, 1543, 1544, 1545, 1546, 1547, 1548, 1549, 1550] (by decide +kernel) (by decide +kernel)
set_option maxRecDepth 20000 in
theorem gL_law_X9_weightOfKind : GoodIn wsL_law (wsV RL 339 RX9 yX9_weightOfKind wsX9_weightOfKind) := goodIn_app (goodIn_of _ (by decide +kernel)) ggL_law_X9_weightOfKind
set_option maxRecDepth 20000 in
theorem ggL_law_L_stockByShelves : GoodIn wsL_law wsL_stockByShelves := goodIn_ca (goodIn_r _ [1064, 236, 1065, 1066, 1067, 2, 1068, 16, 422, 423, 424, 425, 245, 246, 1069, 34, 1070, 1071, 52, 250, 251, 252, 253, 57, 1532, 1533, 1534, 1535, 1536, 1537, 1551, 1552, 1553, 1554, 1555, 1562, 1563, 1564, 1565, 1566, 1567] (by decide +kernel) (by decide +kernel)) (goodIn_sub (fun _ h => List.mem_append_right _ h) (by decide +kernel))
set_option maxRecDepth 20000 in
theorem gL_law_L_stockByShelves : GoodIn wsL_law (va_wsS RL 340 yL_stockByShelves wsL_stockByShelves) := goodIn_app (goodIn_of _ (by decide +kernel)) ggL_law_L_stockByShelves
set_option maxRecDepth 20000 in
theorem ggL_law_X9_stockByShelves : GoodIn wsL_law wsX9_stockByShelves := goodIn_r _ [1075, 115, 440, 441, 5, 442, 189, 190, 191, 618, 619, 620, 621, 107, 212, 213, 214, 215, 192, 193, 194, 195, 1538, 1539, 1540, 1541, 1542, 1543, 1544, 1545, 1546, 1547, 1548, 1549, 1550] (by decide +kernel) (by decide +kernel)
set_option maxRecDepth 20000 in
theorem gL_law_X9_stockByShelves : GoodIn wsL_law (wsV RL 342 RX9 yX9_stockByShelves wsX9_stockByShelves) := goodIn_app (goodIn_of _ (by decide +kernel)) ggL_law_X9_stockByShelves
set_option maxRecDepth 20000 in
theorem ggL_law_L_stockByAccount : GoodIn wsL_law wsL_stockByAccount := goodIn_ca (goodIn_r _ [1078, 236, 1079, 1080, 1081, 2, 1082, 16, 422, 423, 424, 425, 245, 246, 1532, 1533, 1534, 1535, 1536, 1537, 1551, 1552, 1553, 1554, 1555, 1575, 1576, 1577, 1578] (by decide +kernel) (by decide +kernel)) (goodIn_sub (fun _ h => List.mem_append_right _ h) (by decide +kernel))
set_option maxRecDepth 20000 in
theorem gL_law_L_stockByAccount : GoodIn wsL_law (va_wsS RL 343 yL_stockByAccount wsL_stockByAccount) := goodIn_app (goodIn_of _ (by decide +kernel)) ggL_law_L_stockByAccount
set_option maxRecDepth 20000 in
theorem ggL_law_X9_stockByAccount : GoodIn wsL_law wsX9_stockByAccount := goodIn_r _ [1086, 115, 107, 440, 441, 5, 442, 189, 190, 191, 192, 193, 194, 195, 1538, 1539, 1540, 1541, 1542, 1543, 1544, 1545, 1546, 1547, 1548, 1549, 1550] (by decide +kernel) (by decide +kernel)
set_option maxRecDepth 20000 in
theorem gL_law_X9_stockByAccount : GoodIn wsL_law (wsV RL 345 RX9 yX9_stockByAccount wsX9_stockByAccount) := goodIn_app (goodIn_of _ (by decide +kernel)) ggL_law_X9_stockByAccount
set_option maxRecDepth 20000 in
theorem ggL_law_L_shelvesWith : GoodIn wsL_law wsL_shelvesWith := goodIn_ca (goodIn_r _ [1089, 236, 1090, 1091, 1092, 2, 1093, 16, 422, 423, 424, 425, 245, 246, 1094, 34, 1095, 1096, 52, 250, 251, 252, 253, 57, 1532, 1533, 1534, 1535, 1536, 1537, 1551, 1552, 1553, 1554, 1555, 1562, 1563, 1564, 1565, 1566, 1567] (by decide +kernel) (by decide +kernel)) (goodIn_sub (fun _ h => List.mem_append_right _ h) (by decide +kernel))
set_option maxRecDepth 20000 in
theorem gL_law_L_shelvesWith : GoodIn wsL_law (va_wsS RL 346 yL_shelvesWith wsL_shelvesWith) := goodIn_app (goodIn_of _ (by decide +kernel)) ggL_law_L_shelvesWith
set_option maxRecDepth 20000 in
theorem ggL_law_X9_shelvesWith : GoodIn wsL_law wsX9_shelvesWith := goodIn_r _ [1100, 115, 440, 441, 5, 442, 189, 190, 191, 1101, 1102, 1103, 1104, 107, 212, 213, 214, 215, 192, 193, 194, 195, 1538, 1539, 1540, 1541, 1542, 1543, 1544, 1545, 1546, 1547, 1548, 1549, 1550] (by decide +kernel) (by decide +kernel)
set_option maxRecDepth 20000 in
theorem gL_law_X9_shelvesWith : GoodIn wsL_law (wsV RL 348 RX9 yX9_shelvesWith wsX9_shelvesWith) := goodIn_app (goodIn_of _ (by decide +kernel)) ggL_law_X9_shelvesWith
set_option maxRecDepth 20000 in
theorem ggL_law_L_leastOf : GoodIn wsL_law wsL_leastOf := goodIn_ca (goodIn_r _ [1107, 236, 1108, 1109, 1110, 2, 1111, 16, 422, 423, 424, 425, 245, 246, 1532, 1533, 1534, 1535, 1536, 1537, 1551, 1552, 1553, 1554, 1555, 1575, 1576, 1577, 1578] (by decide +kernel) (by decide +kernel)) (goodIn_sub (fun _ h => List.mem_append_right _ h) (by decide +kernel))
set_option maxRecDepth 20000 in
theorem gL_law_L_leastOf : GoodIn wsL_law (va_wsS RL 349 yL_leastOf wsL_leastOf) := goodIn_app (goodIn_of _ (by decide +kernel)) ggL_law_L_leastOf
set_option maxRecDepth 20000 in
theorem ggL_law_X9_leastOf : GoodIn wsL_law wsX9_leastOf := goodIn_r _ [1115, 115, 107, 440, 441, 5, 442, 189, 190, 191, 192, 193, 194, 195, 1538, 1539, 1540, 1541, 1542, 1543, 1544, 1545, 1546, 1547, 1548, 1549, 1550] (by decide +kernel) (by decide +kernel)
set_option maxRecDepth 20000 in
theorem gL_law_X9_leastOf : GoodIn wsL_law (wsV RL 351 RX9 yX9_leastOf wsX9_leastOf) := goodIn_app (goodIn_of _ (by decide +kernel)) ggL_law_X9_leastOf
set_option maxRecDepth 20000 in
theorem ggL_law_L_missingOf : GoodIn wsL_law wsL_missingOf := goodIn_ca (goodIn_r _ [1118, 236, 1119, 1120, 1121, 2, 1122, 16, 422, 423, 424, 425, 245, 246, 1123, 15, 1124, 1125, 43, 35, 1126, 962, 285, 963, 1069, 34, 1070, 1071, 52, 250, 251, 252, 253, 57, 1532, 1533, 1534, 1535, 1536, 1537, 1551, 1552, 1553, 1554, 1555, 1575, 1576, 1577, 1578, 1562, 1563, 1564, 1565, 1566, 1567] (by decide +kernel) (by decide +kernel)) (goodIn_sub (fun _ h => List.mem_append_right _ h) (by decide +kernel))
set_option maxRecDepth 20000 in
theorem gL_law_L_missingOf : GoodIn wsL_law (va_wsS RL 352 yL_missingOf wsL_missingOf) := goodIn_app (goodIn_of _ (by decide +kernel)) ggL_law_L_missingOf
set_option maxRecDepth 20000 in
theorem ggL_law_X9_missingOf : GoodIn wsL_law wsX9_missingOf := goodIn_r _ [1130, 115, 440, 441, 5, 442, 189, 190, 191, 1131, 1132, 1133, 1134, 107, 618, 619, 620, 621, 212, 213, 214, 215, 192, 193, 194, 195, 1538, 1539, 1540, 1541, 1542, 1543, 1544, 1545, 1546, 1547, 1548, 1549, 1550] (by decide +kernel) (by decide +kernel)
set_option maxRecDepth 20000 in
theorem gL_law_X9_missingOf : GoodIn wsL_law (wsV RL 354 RX9 yX9_missingOf wsX9_missingOf) := goodIn_app (goodIn_of _ (by decide +kernel)) ggL_law_X9_missingOf
set_option maxRecDepth 20000 in
theorem ggL_law_X8_shortKinds : GoodIn wsL_law wsX8_shortKinds := goodIn_r _ [1138, 16, 1123, 15, 1124, 1125, 43, 35, 1126, 962, 285, 963, 1069, 34, 1070, 1071, 52, 250, 251, 252, 253, 57, 1532, 1533, 1534, 1535, 1536, 1537, 1551, 1552, 1553, 1554, 1555, 1575, 1576, 1577, 1578, 1562, 1563, 1564, 1565, 1566, 1567] (by decide +kernel) (by decide +kernel)
set_option maxRecDepth 20000 in
theorem gL_law_X8_shortKinds : GoodIn wsL_law (wsV RL 355 RX8 yX8_shortKinds wsX8_shortKinds) := goodIn_app (goodIn_of _ (by decide +kernel)) ggL_law_X8_shortKinds
set_option maxRecDepth 20000 in
theorem ggL_law_X9_shortKinds : GoodIn wsL_law wsX9_shortKinds := goodIn_r _ [1142, 115, 1143, 1144, 1145, 5, 1146, 1131, 1132, 1133, 1134, 107, 618, 619, 620, 621, 212, 213, 214, 215, 1538, 1539, 1540, 1541, 1542, 1543, 1544, 1545, 1546, 1547, 1548, 1549, 1550] (by decide +kernel) (by decide +kernel)
set_option maxRecDepth 20000 in
theorem gL_law_X9_shortKinds : GoodIn wsL_law (wsV RL 358 RX9 yX9_shortKinds wsX9_shortKinds) := goodIn_app (goodIn_of _ (by decide +kernel)) ggL_law_X9_shortKinds
set_option maxRecDepth 20000 in
theorem ggL_law_X8_orders : GoodIn wsL_law wsX8_orders := goodIn_r _ [1150, 16, 1532, 1533, 1534, 1535, 1536, 1537, 1551, 1552, 1553, 1554, 1555, 1579, 1580] (by decide +kernel) (by decide +kernel)
set_option maxRecDepth 20000 in
theorem gL_law_X8_orders : GoodIn wsL_law (wsV RL 359 RX8 yX8_orders wsX8_orders) := goodIn_app (goodIn_of _ (by decide +kernel)) ggL_law_X8_orders
set_option maxRecDepth 20000 in
theorem ggL_law_X9_orders : GoodIn wsL_law wsX9_orders := goodIn_r _ [1154, 115, 107, 1538, 1539, 1540, 1541, 1542, 1543, 1544, 1545, 1546, 1547, 1548, 1549, 1550] (by decide +kernel) (by decide +kernel)
set_option maxRecDepth 20000 in
theorem gL_law_X9_orders : GoodIn wsL_law (wsV RL 362 RX9 yX9_orders wsX9_orders) := goodIn_app (goodIn_of _ (by decide +kernel)) ggL_law_X9_orders
set_option maxRecDepth 20000 in
theorem ggL_law_L_wanted : GoodIn wsL_law wsL_wanted := goodIn_ca (goodIn_r _ [1157, 236, 1158, 1159, 1160, 2, 1161, 16, 533, 534, 535, 536, 245, 246, 422, 423, 424, 425, 541, 46, 542, 543, 80, 1532, 1533, 1534, 1535, 1536, 1537, 1551, 1552, 1553, 1554, 1555, 1579, 1580] (by decide +kernel) (by decide +kernel)) (goodIn_sub (fun _ h => List.mem_append_right _ h) (by decide +kernel))
set_option maxRecDepth 20000 in
theorem gL_law_L_wanted : GoodIn wsL_law (va_wsS RL 363 yL_wanted wsL_wanted) := goodIn_app (goodIn_of _ (by decide +kernel)) ggL_law_L_wanted
set_option maxRecDepth 20000 in
theorem ggL_law_X9_wanted : GoodIn wsL_law wsX9_wanted := goodIn_r _ [1165, 115, 551, 552, 553, 5, 554, 107, 189, 190, 191, 440, 441, 442, 559, 560, 561, 562, 192, 193, 194, 195, 1538, 1539, 1540, 1541, 1542, 1543, 1544, 1545, 1546, 1547, 1548, 1549, 1550] (by decide +kernel) (by decide +kernel)
set_option maxRecDepth 20000 in
theorem gL_law_X9_wanted : GoodIn wsL_law (wsV RL 365 RX9 yX9_wanted wsX9_wanted) := goodIn_app (goodIn_of _ (by decide +kernel)) ggL_law_X9_wanted
set_option maxRecDepth 20000 in
theorem ggL_law_L_thingsOf : GoodIn wsL_law wsL_thingsOf := goodIn_ca (goodIn_r _ [1168, 236, 1169, 1170, 1171, 2, 1172, 16, 533, 534, 535, 536, 245, 246, 537, 46, 538, 539, 540, 541, 542, 543, 80, 1532, 1533, 1534, 1535, 1536, 1537, 1551, 1552, 1553, 1554, 1555, 1579, 1580] (by decide +kernel) (by decide +kernel)) (goodIn_sub (fun _ h => List.mem_append_right _ h) (by decide +kernel))
set_option maxRecDepth 20000 in
theorem gL_law_L_thingsOf : GoodIn wsL_law (va_wsS RL 366 yL_thingsOf wsL_thingsOf) := goodIn_app (goodIn_of _ (by decide +kernel)) ggL_law_L_thingsOf
set_option maxRecDepth 20000 in
theorem ggL_law_X9_thingsOf : GoodIn wsL_law wsX9_thingsOf := goodIn_r _ [1176, 115, 551, 552, 553, 5, 554, 107, 189, 190, 191, 555, 556, 557, 558, 559, 560, 561, 562, 192, 193, 194, 195, 1538, 1539, 1540, 1541, 1542, 1543, 1544, 1545, 1546, 1547, 1548, 1549, 1550] (by decide +kernel) (by decide +kernel)
set_option maxRecDepth 20000 in
theorem gL_law_X9_thingsOf : GoodIn wsL_law (wsV RL 368 RX9 yX9_thingsOf wsX9_thingsOf) := goodIn_app (goodIn_of _ (by decide +kernel)) ggL_law_X9_thingsOf
set_option maxRecDepth 20000 in
theorem ggL_law_L_canServe : GoodIn wsL_law wsL_canServe := goodIn_ca (goodIn_r _ [1179, 236, 1180, 1181, 1182, 2, 1183, 16, 533, 534, 535, 536, 245, 246, 578, 15, 579, 580, 35, 581, 582, 583, 584, 47, 541, 46, 542, 543, 80, 251, 34, 252, 253, 57, 1532, 1533, 1534, 1535, 1536, 1537, 1551, 1552, 1553, 1554, 1555, 1579, 1580, 1562, 1563, 1564, 1565, 1566, 1567] (by decide +kernel) (by decide +kernel)) (goodIn_sub (fun _ h => List.mem_append_right _ h) (by decide +kernel))
set_option maxRecDepth 20000 in
theorem gL_law_L_canServe : GoodIn wsL_law (va_wsS RL 369 yL_canServe wsL_canServe) := goodIn_app (goodIn_of _ (by decide +kernel)) ggL_law_L_canServe
set_option maxRecDepth 20000 in
theorem ggL_law_X9_canServe : GoodIn wsL_law wsX9_canServe := goodIn_r _ [1187, 115, 551, 552, 553, 5, 554, 107, 189, 190, 191, 614, 615, 616, 617, 559, 560, 561, 562, 618, 619, 620, 621, 212, 213, 214, 215, 192, 193, 194, 195, 1538, 1539, 1540, 1541, 1542, 1543, 1544, 1545, 1546, 1547, 1548, 1549, 1550] (by decide +kernel) (by decide +kernel)
set_option maxRecDepth 20000 in
theorem gL_law_X9_canServe : GoodIn wsL_law (wsV RL 371 RX9 yX9_canServe wsX9_canServe) := goodIn_app (goodIn_of _ (by decide +kernel)) ggL_law_X9_canServe
set_option maxRecDepth 20000 in
theorem ggL_law_L_fewestByTrying : GoodIn wsL_law wsL_fewestByTrying := goodIn_ca (goodIn_ca (goodIn_r _ [1190, 236, 121, 1191, 1192, 1193, 2, 1194, 16, 533, 534, 535, 536, 245, 246, 574, 575, 576, 577, 126, 127, 578, 15, 579, 580, 35, 581, 582, 583, 584, 47, 541, 46, 542, 543, 80, 251, 34, 252, 253, 57, 589, 590, 591, 592, 593, 594, 595, 596, 597, 598, 599, 600, 601, 602, 1195, 1532, 1533, 1534, 1535, 1536, 1537, 1551, 1552, 1553, 1554, 1555, 1579, 1580, 1562, 1563, 1564, 1565, 1566, 1567] (by decide +kernel) (by decide +kernel)) (goodIn_sub (fun _ h => List.mem_append_right _ h) (by decide +kernel))) (goodIn_sub (fun _ h => List.mem_append_left _ (List.mem_append_left _ (List.mem_append_right _ h))) (by decide +kernel))
set_option maxRecDepth 20000 in
theorem gL_law_L_fewestByTrying : GoodIn wsL_law (va_wsS RL 372 yL_fewestByTrying wsL_fewestByTrying) := goodIn_app (goodIn_of _ (by decide +kernel)) ggL_law_L_fewestByTrying
set_option maxRecDepth 20000 in
theorem ggL_law_X9_fewestByTrying : GoodIn wsL_law wsX9_fewestByTrying := goodIn_r _ [1199, 1200, 1201, 1202, 5, 1203, 115, 551, 552, 553, 554, 107, 189, 190, 191, 192, 193, 194, 195, 614, 615, 616, 617, 559, 560, 561, 562, 618, 619, 620, 621, 212, 213, 214, 215, 626, 627, 628, 629, 630, 631, 632, 633, 634, 635, 636, 1538, 1539, 1540, 1541, 1542, 1543, 1544, 1545, 1546, 1547, 1548, 1549, 1550] (by decide +kernel) (by decide +kernel)
set_option maxRecDepth 20000 in
theorem gL_law_X9_fewestByTrying : GoodIn wsL_law (wsV RL 374 RX9 yX9_fewestByTrying wsX9_fewestByTrying) := goodIn_app (goodIn_of _ (by decide +kernel)) ggL_law_X9_fewestByTrying
set_option maxRecDepth 20000 in
theorem ggL_law_L_fewestByGoing : GoodIn wsL_law wsL_fewestByGoing := goodIn_ca (goodIn_ca (goodIn_r _ [1206, 236, 121, 1207, 1208, 1209, 2, 1210, 533, 534, 535, 536, 245, 246, 16, 574, 575, 576, 577, 126, 127, 578, 15, 579, 580, 35, 581, 582, 583, 584, 47, 541, 46, 542, 543, 80, 251, 34, 252, 253, 57, 1211, 1212, 1213, 1214, 28, 1215, 1216, 1217, 1218, 1219, 1220, 1221, 1222, 1223, 250, 1224, 1225, 1226, 1532, 1533, 1534, 1535, 1536, 1537, 1551, 1552, 1553, 1554, 1555, 1579, 1580, 1562, 1563, 1564, 1565, 1566, 1567] (by decide +kernel) (by decide +kernel)) (goodIn_sub (fun _ h => List.mem_append_right _ h) (by decide +kernel))) (goodIn_sub (fun _ h => List.mem_append_left _ (List.mem_append_left _ (List.mem_append_right _ h))) (by decide +kernel))
set_option maxRecDepth 20000 in
theorem gL_law_L_fewestByGoing : GoodIn wsL_law (va_wsS RL 375 yL_fewestByGoing wsL_fewestByGoing) := goodIn_app (goodIn_of _ (by decide +kernel)) ggL_law_L_fewestByGoing
set_option maxRecDepth 20000 in
theorem ggL_law_X9_fewestByGoing : GoodIn wsL_law wsX9_fewestByGoing := goodIn_r _ [1230, 1200, 1201, 1202, 5, 1203, 115, 551, 552, 553, 554, 107, 189, 190, 191, 192, 193, 194, 195, 614, 615, 616, 617, 559, 560, 561, 562, 618, 619, 620, 621, 212, 213, 214, 215, 626, 627, 628, 629, 630, 631, 632, 633, 634, 635, 636, 1538, 1539, 1540, 1541, 1542, 1543, 1544, 1545, 1546, 1547, 1548, 1549, 1550] (by decide +kernel) (by decide +kernel)
set_option maxRecDepth 20000 in
theorem gL_law_X9_fewestByGoing : GoodIn wsL_law (wsV RL 377 RX9 yX9_fewestByGoing wsX9_fewestByGoing) := goodIn_app (goodIn_of _ (by decide +kernel)) ggL_law_X9_fewestByGoing
set_option maxRecDepth 20000 in
theorem ggL_law_L_choiceFor : GoodIn wsL_law wsL_choiceFor := goodIn_ca (goodIn_ca (goodIn_r _ [1233, 236, 121, 1234, 1235, 1236, 2, 1237, 16, 533, 534, 535, 536, 245, 246, 574, 575, 576, 577, 126, 127, 578, 15, 579, 580, 35, 581, 582, 583, 584, 47, 541, 46, 542, 543, 80, 251, 34, 252, 253, 57, 589, 590, 591, 592, 593, 594, 595, 596, 597, 598, 599, 600, 601, 602, 1532, 1533, 1534, 1535, 1536, 1537, 1551, 1552, 1553, 1554, 1555, 1579, 1580, 1562, 1563, 1564, 1565, 1566, 1567] (by decide +kernel) (by decide +kernel)) (goodIn_sub (fun _ h => List.mem_append_right _ h) (by decide +kernel))) (goodIn_sub (fun _ h => List.mem_append_left _ (List.mem_append_left _ (List.mem_append_right _ h))) (by decide +kernel))
set_option maxRecDepth 20000 in
theorem gL_law_L_choiceFor : GoodIn wsL_law (va_wsS RL 378 yL_choiceFor wsL_choiceFor) := goodIn_app (goodIn_of _ (by decide +kernel)) ggL_law_L_choiceFor
set_option maxRecDepth 20000 in
theorem ggL_law_X9_choiceFor : GoodIn wsL_law wsX9_choiceFor := goodIn_r _ [1241, 1200, 1201, 1202, 5, 1203, 115, 551, 552, 553, 554, 107, 189, 190, 191, 192, 193, 194, 195, 614, 615, 616, 617, 559, 560, 561, 562, 618, 619, 620, 621, 212, 213, 214, 215, 626, 627, 628, 629, 630, 631, 632, 633, 634, 635, 636, 1538, 1539, 1540, 1541, 1542, 1543, 1544, 1545, 1546, 1547, 1548, 1549, 1550] (by decide +kernel) (by decide +kernel)
set_option maxRecDepth 20000 in
theorem gL_law_X9_choiceFor : GoodIn wsL_law (wsV RL 380 RX9 yX9_choiceFor wsX9_choiceFor) := goodIn_app (goodIn_of _ (by decide +kernel)) ggL_law_X9_choiceFor
set_option maxRecDepth 20000 in
theorem ggL_law_L_ticksByServing : GoodIn wsL_law wsL_ticksByServing := goodIn_ca (goodIn_ca (goodIn_r _ [1244, 236, 121, 1245, 1246, 1247, 2, 1248, 17, 16, 533, 534, 535, 536, 245, 246, 134, 135, 136, 137, 126, 127, 574, 575, 576, 577, 578, 15, 579, 580, 35, 581, 582, 583, 584, 47, 541, 46, 542, 543, 80, 251, 34, 252, 253, 57, 161, 162, 163, 39, 43, 48, 164, 165, 166, 52, 53, 54, 167, 168, 169, 170, 55, 56, 171, 38, 172, 173, 61, 62, 63, 64, 65, 66, 68, 174, 42, 175, 176, 72, 177, 73, 74, 75, 178, 179, 180, 79, 181, 585, 586, 587, 588, 589, 590, 591, 592, 593, 594, 595, 596, 597, 598, 599, 600, 601, 602, 603, 276, 277, 278, 279, 280, 281, 282, 283, 284, 285, 286, 287, 288, 289, 290, 291, 292, 293, 294, 604, 605, 606, 607, 608, 433, 434, 435, 609, 326, 327, 328, 138, 139, 140, 141, 142, 143, 144, 145, 146, 147, 148, 149, 150, 151, 152, 153, 329, 330, 331, 332, 544, 545, 546, 1532, 1533, 1534, 1535, 1536, 1537, 1551, 1552, 1553, 1554, 1555, 1579, 1580, 1562, 1563, 1564, 1565, 1566, 1567, 1568, 1569, 1570, 1571, 1572, 1573, 1574, 1575, 1576, 1577, 1578] (by decide +kernel) (by decide +kernel)) (goodIn_sub (fun _ h => List.mem_append_right _ h) (by decide +kernel))) (goodIn_sub (fun _ h => List.mem_append_left _ (List.mem_append_left _ (List.mem_append_right _ h))) (by decide +kernel))
set_option maxRecDepth 20000 in
theorem gL_law_L_ticksByServing : GoodIn wsL_law (va_wsS RL 381 yL_ticksByServing wsL_ticksByServing) := goodIn_app (goodIn_of _ (by decide +kernel)) ggL_law_L_ticksByServing
set_option maxRecDepth 20000 in
theorem ggL_law_X9_ticksByServing : GoodIn wsL_law wsX9_ticksByServing := goodIn_r _ [1252, 115, 551, 552, 553, 5, 554, 107, 189, 190, 191, 192, 193, 194, 195, 196, 197, 198, 199, 614, 615, 616, 617, 559, 560, 561, 562, 618, 619, 620, 621, 212, 213, 214, 215, 1253, 1254, 1255, 1256, 403, 404, 405, 406, 108, 622, 623, 624, 625, 114, 626, 627, 628, 629, 630, 631, 632, 633, 634, 635, 636, 299, 300, 301, 302, 303, 304, 305, 306, 307, 308, 309, 310, 221, 222, 223, 224, 311, 312, 313, 314, 637, 638, 639, 640, 337, 338, 339, 340, 200, 201, 202, 203, 204, 205, 206, 207, 208, 209, 210, 211, 341, 342, 343, 344, 225, 226, 227, 228, 563, 564, 565, 566, 411, 412, 413, 414, 1538, 1539, 1540, 1541, 1542, 1543, 1544, 1545, 1546, 1547, 1548, 1549, 1550] (by decide +kernel) (by decide +kernel)
set_option maxRecDepth 20000 in
theorem gL_law_X9_ticksByServing : GoodIn wsL_law (wsV RL 383 RX9 yX9_ticksByServing wsX9_ticksByServing) := goodIn_app (goodIn_of _ (by decide +kernel)) ggL_law_X9_ticksByServing
set_option maxRecDepth 20000 in
theorem ggL_law_L_ticksBySums : GoodIn wsL_law wsL_ticksBySums := goodIn_ca (goodIn_ca (goodIn_r _ [1259, 236, 121, 1260, 1261, 1262, 2, 1263, 126, 127, 16, 533, 534, 535, 536, 245, 246, 134, 135, 136, 137, 574, 575, 576, 577, 578, 15, 579, 580, 35, 581, 582, 583, 584, 47, 541, 46, 542, 543, 80, 251, 34, 252, 253, 57, 589, 590, 591, 592, 593, 594, 595, 596, 597, 598, 599, 600, 601, 602, 1264, 1265, 1266, 39, 283, 284, 285, 286, 287, 288, 1532, 1533, 1534, 1535, 1536, 1537, 1551, 1552, 1553, 1554, 1555, 1568, 1569, 1570, 1571, 1572, 1573, 1574, 1579, 1580, 1562, 1563, 1564, 1565, 1566, 1567] (by decide +kernel) (by decide +kernel)) (goodIn_sub (fun _ h => List.mem_append_left _ (List.mem_append_left _ (List.mem_append_right _ h))) (by decide +kernel))) (goodIn_sub (fun _ h => List.mem_append_right _ h) (by decide +kernel))
set_option maxRecDepth 20000 in
theorem gL_law_L_ticksBySums : GoodIn wsL_law (va_wsS RL 384 yL_ticksBySums wsL_ticksBySums) := goodIn_app (goodIn_of _ (by decide +kernel)) ggL_law_L_ticksBySums
set_option maxRecDepth 20000 in
theorem ggL_law_X9_ticksBySums : GoodIn wsL_law wsX9_ticksBySums := goodIn_r _ [1270, 115, 107, 551, 552, 553, 5, 554, 189, 190, 191, 192, 193, 194, 195, 196, 197, 198, 199, 614, 615, 616, 617, 559, 560, 561, 562, 618, 619, 620, 621, 212, 213, 214, 215, 1253, 1254, 1255, 1256, 403, 404, 405, 406, 108, 622, 623, 624, 625, 114, 626, 627, 628, 629, 630, 631, 632, 633, 634, 635, 636, 299, 300, 301, 302, 303, 304, 305, 306, 307, 308, 309, 310, 221, 222, 223, 224, 311, 312, 313, 314, 637, 638, 639, 640, 337, 338, 339, 340, 200, 201, 202, 203, 204, 205, 206, 207, 208, 209, 210, 211, 341, 342, 343, 344, 225, 226, 227, 228, 563, 564, 565, 566, 411, 412, 413, 414, 1538, 1539, 1540, 1541, 1542, 1543, 1544, 1545, 1546, 1547, 1548, 1549, 1550] (by decide +kernel) (by decide +kernel)
set_option maxRecDepth 20000 in
theorem gL_law_X9_ticksBySums : GoodIn wsL_law (wsV RL 386 RX9 yX9_ticksBySums wsX9_ticksBySums) := goodIn_app (goodIn_of _ (by decide +kernel)) ggL_law_X9_ticksBySums
set_option maxRecDepth 20000 in
theorem ggL_law_L_cheapestOrder : GoodIn wsL_law wsL_cheapestOrder := goodIn_ca (goodIn_r _ [1273, 121, 1274, 1275, 1276, 2, 1277, 126, 127, 134, 135, 136, 137, 16, 1278, 1279, 1280, 1281, 17, 578, 15, 579, 580, 35, 581, 582, 583, 584, 47, 541, 46, 542, 543, 80, 251, 34, 252, 253, 57, 161, 162, 163, 39, 43, 48, 164, 165, 166, 52, 53, 54, 167, 168, 169, 170, 55, 56, 171, 38, 172, 173, 61, 62, 63, 64, 65, 66, 68, 174, 42, 175, 176, 72, 177, 73, 74, 75, 178, 179, 180, 79, 181, 585, 586, 587, 588, 589, 590, 591, 592, 593, 594, 595, 596, 597, 598, 599, 600, 601, 602, 603, 276, 277, 278, 279, 280, 281, 282, 283, 284, 285, 286, 287, 288, 289, 290, 291, 292, 293, 294, 604, 605, 606, 607, 608, 433, 434, 435, 609, 326, 327, 328, 138, 139, 140, 141, 142, 143, 144, 145, 146, 147, 148, 149, 150, 151, 152, 153, 329, 330, 331, 332, 544, 545, 546, 1532, 1533, 1534, 1535, 1536, 1537, 1551, 1552, 1553, 1554, 1555, 1562, 1563, 1564, 1565, 1566, 1567, 1579, 1580, 1568, 1569, 1570, 1571, 1572, 1573, 1574, 1575, 1576, 1577, 1578] (by decide +kernel) (by decide +kernel)) (goodIn_sub (fun _ h => List.mem_append_left _ (List.mem_append_left _ (List.mem_append_right _ h))) (by decide +kernel))
set_option maxRecDepth 20000 in
theorem gL_law_L_cheapestOrder : GoodIn wsL_law (va_wsS RL 387 yL_cheapestOrder wsL_cheapestOrder) := goodIn_app (goodIn_of _ (by decide +kernel)) ggL_law_L_cheapestOrder
set_option maxRecDepth 20000 in
theorem ggL_law_X9_cheapestOrder : GoodIn wsL_law wsX9_cheapestOrder := goodIn_r _ [1285, 115, 1286, 1287, 1288, 5, 1289, 107, 196, 197, 198, 199, 614, 615, 616, 617, 559, 560, 561, 562, 618, 619, 620, 621, 212, 213, 214, 215, 1253, 1254, 1255, 1256, 403, 404, 405, 406, 108, 622, 623, 624, 625, 114, 626, 627, 628, 629, 630, 631, 632, 633, 634, 635, 636, 299, 300, 301, 302, 303, 304, 305, 306, 307, 308, 309, 310, 221, 222, 223, 224, 311, 312, 313, 314, 637, 638, 639, 640, 337, 338, 339, 340, 200, 201, 202, 203, 204, 205, 206, 207, 208, 209, 210, 211, 189, 190, 191, 341, 342, 343, 344, 225, 226, 227, 228, 563, 564, 565, 566, 411, 412, 413, 414, 192, 193, 194, 195, 1538, 1539, 1540, 1541, 1542, 1543, 1544, 1545, 1546, 1547, 1548, 1549, 1550] (by decide +kernel) (by decide +kernel)
set_option maxRecDepth 20000 in
theorem gL_law_X9_cheapestOrder : GoodIn wsL_law (wsV RL 389 RX9 yX9_cheapestOrder wsX9_cheapestOrder) := goodIn_app (goodIn_of _ (by decide +kernel)) ggL_law_X9_cheapestOrder
set_option maxRecDepth 20000 in
theorem ggL_law_L_servable : GoodIn wsL_law wsL_servable := goodIn_ca (goodIn_r _ [1292, 121, 1293, 1294, 1295, 2, 1296, 17, 16, 134, 135, 136, 137, 126, 127, 161, 15, 162, 163, 35, 39, 43, 47, 48, 164, 34, 165, 166, 52, 53, 54, 167, 168, 169, 170, 55, 56, 57, 171, 38, 172, 173, 61, 62, 63, 64, 65, 66, 68, 174, 42, 175, 176, 72, 177, 73, 74, 75, 178, 46, 179, 180, 79, 80, 181, 648, 649, 650, 651, 652, 653, 654, 655, 578, 579, 580, 581, 582, 583, 584, 541, 542, 543, 251, 252, 253, 656, 585, 586, 587, 588, 589, 590, 591, 592, 593, 594, 595, 596, 597, 598, 599, 600, 601, 602, 603, 276, 277, 278, 279, 280, 281, 282, 283, 284, 285, 286, 287, 288, 289, 290, 291, 292, 293, 294, 604, 605, 606, 607, 608, 433, 434, 435, 609, 326, 327, 328, 138, 139, 140, 141, 142, 143, 144, 145, 146, 147, 148, 149, 150, 151, 152, 153, 329, 330, 331, 332, 544, 545, 546, 1532, 1533, 1534, 1535, 1536, 1537, 1551, 1552, 1553, 1554, 1555, 1562, 1563, 1564, 1565, 1566, 1567, 1568, 1569, 1570, 1571, 1572, 1573, 1574, 1575, 1576, 1577, 1578, 1579, 1580] (by decide +kernel) (by decide +kernel)) (goodIn_sub (fun _ h => List.mem_append_left _ (List.mem_append_left _ (List.mem_append_right _ h))) (by decide +kernel))
set_option maxRecDepth 20000 in
theorem gL_law_L_servable : GoodIn wsL_law (va_wsS RL 390 yL_servable wsL_servable) := goodIn_app (goodIn_of _ (by decide +kernel)) ggL_law_L_servable
set_option maxRecDepth 20000 in
theorem ggL_law_X9_servable : GoodIn wsL_law wsX9_servable := goodIn_r _ [1300, 115, 107, 196, 197, 198, 5, 199, 192, 193, 194, 195, 403, 404, 405, 406, 108, 661, 662, 663, 664, 665, 666, 667, 668, 614, 615, 616, 617, 559, 560, 561, 562, 618, 619, 620, 621, 212, 213, 214, 215, 622, 623, 624, 625, 114, 626, 627, 628, 629, 630, 631, 632, 633, 634, 635, 636, 299, 300, 301, 302, 303, 304, 305, 306, 307, 308, 309, 310, 221, 222, 223, 224, 311, 312, 313, 314, 637, 638, 639, 640, 337, 338, 339, 340, 200, 201, 202, 203, 204, 205, 206, 207, 208, 209, 210, 211, 189, 190, 191, 341, 342, 343, 344, 225, 226, 227, 228, 563, 564, 565, 566, 411, 412, 413, 414, 1538, 1539, 1540, 1541, 1542, 1543, 1544, 1545, 1546, 1547, 1548, 1549, 1550] (by decide +kernel) (by decide +kernel)
set_option maxRecDepth 20000 in
theorem gL_law_X9_servable : GoodIn wsL_law (wsV RL 392 RX9 yX9_servable wsX9_servable) := goodIn_app (goodIn_of _ (by decide +kernel)) ggL_law_X9_servable
set_option maxRecDepth 20000 in
theorem ggL_law_X8_ticks : GoodIn wsL_law wsX8_ticks := goodIn_r _ [1304, 16, 1532, 1533, 1534, 1535, 1536, 1537, 1551, 1552, 1553, 1554, 1555, 1568, 1569, 1570, 1571, 1572, 1573, 1574] (by decide +kernel) (by decide +kernel)
set_option maxRecDepth 20000 in
theorem gL_law_X8_ticks : GoodIn wsL_law (wsV RL 393 RX8 yX8_ticks wsX8_ticks) := goodIn_app (goodIn_of _ (by decide +kernel)) ggL_law_X8_ticks
set_option maxRecDepth 20000 in
theorem ggL_law_X9_ticks : GoodIn wsL_law wsX9_ticks := goodIn_r _ [1308, 115, 107, 1538, 1539, 1540, 1541, 1542, 1543, 1544, 1545, 1546, 1547, 1548, 1549, 1550] (by decide +kernel) (by decide +kernel)
set_option maxRecDepth 20000 in
theorem gL_law_X9_ticks : GoodIn wsL_law (wsV RL 396 RX9 yX9_ticks wsX9_ticks) := goodIn_app (goodIn_of _ (by decide +kernel)) ggL_law_X9_ticks
set_option maxRecDepth 20000 in
theorem ggL_law_X8_fetches : GoodIn wsL_law wsX8_fetches := goodIn_r _ [1312, 16, 1532, 1533, 1534, 1535, 1536, 1537, 1551, 1552, 1553, 1554, 1555, 1568, 1569, 1570, 1571, 1572, 1573, 1574] (by decide +kernel) (by decide +kernel)
set_option maxRecDepth 20000 in
theorem gL_law_X8_fetches : GoodIn wsL_law (wsV RL 397 RX8 yX8_fetches wsX8_fetches) := goodIn_app (goodIn_of _ (by decide +kernel)) ggL_law_X8_fetches
set_option maxRecDepth 20000 in
theorem ggL_law_X9_fetches : GoodIn wsL_law wsX9_fetches := goodIn_r _ [1316, 115, 107, 1538, 1539, 1540, 1541, 1542, 1543, 1544, 1545, 1546, 1547, 1548, 1549, 1550] (by decide +kernel) (by decide +kernel)
set_option maxRecDepth 20000 in
theorem gL_law_X9_fetches : GoodIn wsL_law (wsV RL 400 RX9 yX9_fetches wsX9_fetches) := goodIn_app (goodIn_of _ (by decide +kernel)) ggL_law_X9_fetches
set_option maxRecDepth 20000 in
theorem ggL_law_X8_served : GoodIn wsL_law wsX8_served := goodIn_r _ [1320, 16, 1532, 1533, 1534, 1535, 1536, 1537, 1551, 1552, 1553, 1554, 1555] (by decide +kernel) (by decide +kernel)
set_option maxRecDepth 20000 in
theorem gL_law_X8_served : GoodIn wsL_law (wsV RL 401 RX8 yX8_served wsX8_served) := goodIn_app (goodIn_of _ (by decide +kernel)) ggL_law_X8_served
set_option maxRecDepth 20000 in
theorem ggL_law_X9_served : GoodIn wsL_law wsX9_served := goodIn_r _ [1324, 115, 107, 1538, 1539, 1540, 1541, 1542, 1543, 1544, 1545, 1546, 1547, 1548, 1549, 1550] (by decide +kernel) (by decide +kernel)
set_option maxRecDepth 20000 in
theorem gL_law_X9_served : GoodIn wsL_law (wsV RL 404 RX9 yX9_served wsX9_served) := goodIn_app (goodIn_of _ (by decide +kernel)) ggL_law_X9_served
set_option maxRecDepth 20000 in
theorem ggL_law_L_fetchTicks : GoodIn wsL_law wsL_fetchTicks := goodIn_ca (goodIn_ca (goodIn_r _ [1327, 236, 121, 1328, 1329, 1330, 2, 1331, 16, 241, 242, 243, 244, 245, 246, 134, 135, 136, 137, 126, 127, 280, 15, 281, 282, 35, 39, 283, 284, 285, 286, 287, 34, 288, 1532, 1533, 1534, 1535, 1536, 1537, 1551, 1552, 1553, 1554, 1555, 1562, 1563, 1564, 1565, 1566, 1567, 1568, 1569, 1570, 1571, 1572, 1573, 1574] (by decide +kernel) (by decide +kernel)) (goodIn_sub (fun _ h => List.mem_append_right _ h) (by decide +kernel))) (goodIn_sub (fun _ h => List.mem_append_left _ (List.mem_append_left _ (List.mem_append_right _ h))) (by decide +kernel))
set_option maxRecDepth 20000 in
theorem gL_law_L_fetchTicks : GoodIn wsL_law (va_wsS RL 405 yL_fetchTicks wsL_fetchTicks) := goodIn_app (goodIn_of _ (by decide +kernel)) ggL_law_L_fetchTicks
set_option maxRecDepth 20000 in
theorem ggL_law_X9_fetchTicks : GoodIn wsL_law wsX9_fetchTicks := goodIn_r _ [1335, 115, 261, 262, 263, 5, 264, 107, 189, 190, 191, 192, 193, 194, 195, 196, 197, 198, 199, 303, 304, 305, 306, 212, 213, 214, 215, 307, 308, 309, 310, 1538, 1539, 1540, 1541, 1542, 1543, 1544, 1545, 1546, 1547, 1548, 1549, 1550] (by decide +kernel) (by decide +kernel)
set_option maxRecDepth 20000 in
theorem gL_law_X9_fetchTicks : GoodIn wsL_law (wsV RL 407 RX9 yX9_fetchTicks wsX9_fetchTicks) := goodIn_app (goodIn_of _ (by decide +kernel)) ggL_law_X9_fetchTicks
set_option maxRecDepth 20000 in
theorem ggL_law_L_heaviest : GoodIn wsL_law wsL_heaviest := goodIn_ca (goodIn_r _ [1338, 121, 1339, 1340, 1341, 2, 1342, 16, 1343, 1344, 1345, 1346, 126, 127, 1347, 15, 1348, 1349, 35, 694, 430, 431, 432, 43, 251, 34, 252, 253, 57, 1532, 1533, 1534, 1535, 1536, 1537, 1551, 1552, 1553, 1554, 1555, 1562, 1563, 1564, 1565, 1566, 1567, 1575, 1576, 1577, 1578] (by decide +kernel) (by decide +kernel)) (goodIn_sub (fun _ h => List.mem_append_left _ (List.mem_append_left _ (List.mem_append_right _ h))) (by decide +kernel))
set_option maxRecDepth 20000 in
theorem gL_law_L_heaviest : GoodIn wsL_law (va_wsS RL 408 yL_heaviest wsL_heaviest) := goodIn_app (goodIn_of _ (by decide +kernel)) ggL_law_L_heaviest
set_option maxRecDepth 20000 in
theorem ggL_law_X9_heaviest : GoodIn wsL_law wsX9_heaviest := goodIn_r _ [1353, 115, 107, 192, 193, 194, 5, 195, 1354, 1355, 1356, 1357, 446, 447, 448, 449, 212, 213, 214, 215, 1538, 1539, 1540, 1541, 1542, 1543, 1544, 1545, 1546, 1547, 1548, 1549, 1550] (by decide +kernel) (by decide +kernel)
set_option maxRecDepth 20000 in
theorem gL_law_X9_heaviest : GoodIn wsL_law (wsV RL 410 RX9 yX9_heaviest wsX9_heaviest) := goodIn_app (goodIn_of _ (by decide +kernel)) ggL_law_X9_heaviest
set_option maxRecDepth 20000 in
theorem ggL_law_L_mostFetched : GoodIn wsL_law wsL_mostFetched := goodIn_ca (goodIn_r _ [1360, 121, 1361, 1362, 1363, 2, 1364, 16, 1343, 1344, 1345, 1346, 126, 127, 382, 34, 383, 384, 52, 56, 1532, 1533, 1534, 1535, 1536, 1537, 1551, 1552, 1553, 1554, 1555, 1562, 1563, 1564, 1565, 1566, 1567] (by decide +kernel) (by decide +kernel)) (goodIn_sub (fun _ h => List.mem_append_left _ (List.mem_append_left _ (List.mem_append_right _ h))) (by decide +kernel))
set_option maxRecDepth 20000 in
theorem gL_law_L_mostFetched : GoodIn wsL_law (va_wsS RL 411 yL_mostFetched wsL_mostFetched) := goodIn_app (goodIn_of _ (by decide +kernel)) ggL_law_L_mostFetched
set_option maxRecDepth 20000 in
theorem ggL_law_X9_mostFetched : GoodIn wsL_law wsX9_mostFetched := goodIn_r _ [1368, 115, 107, 192, 193, 194, 5, 195, 1369, 1370, 1371, 1372, 212, 213, 214, 215, 1538, 1539, 1540, 1541, 1542, 1543, 1544, 1545, 1546, 1547, 1548, 1549, 1550] (by decide +kernel) (by decide +kernel)
set_option maxRecDepth 20000 in
theorem gL_law_X9_mostFetched : GoodIn wsL_law (wsV RL 413 RX9 yX9_mostFetched wsX9_mostFetched) := goodIn_app (goodIn_of _ (by decide +kernel)) ggL_law_X9_mostFetched
set_option maxRecDepth 20000 in
theorem ggL_law_X8_usedWays : GoodIn wsL_law wsX8_usedWays := goodIn_r _ [1376, 16, 1377, 34, 1378, 1379, 52, 55, 56, 1380, 287, 288, 1532, 1533, 1534, 1535, 1536, 1537, 1551, 1552, 1553, 1554, 1555, 1562, 1563, 1564, 1565, 1566, 1567] (by decide +kernel) (by decide +kernel)
set_option maxRecDepth 20000 in
theorem gL_law_X8_usedWays : GoodIn wsL_law (wsV RL 414 RX8 yX8_usedWays wsX8_usedWays) := goodIn_app (goodIn_of _ (by decide +kernel)) ggL_law_X8_usedWays
set_option maxRecDepth 20000 in
theorem ggL_law_X9_usedWays : GoodIn wsL_law wsX9_usedWays := goodIn_r _ [1384, 115, 1385, 1386, 1387, 5, 1388, 107, 212, 213, 214, 215, 307, 308, 309, 310, 1538, 1539, 1540, 1541, 1542, 1543, 1544, 1545, 1546, 1547, 1548, 1549, 1550] (by decide +kernel) (by decide +kernel)
set_option maxRecDepth 20000 in
theorem gL_law_X9_usedWays : GoodIn wsL_law (wsV RL 417 RX9 yX9_usedWays wsX9_usedWays) := goodIn_app (goodIn_of _ (by decide +kernel)) ggL_law_X9_usedWays
set_option maxRecDepth 20000 in
theorem ggL_law_X8_meanWay : GoodIn wsL_law wsX8_meanWay := goodIn_r _ [1392, 16, 1377, 34, 1378, 1379, 52, 55, 56, 1380, 287, 288, 1393, 1394, 1395, 1396, 1397, 2, 1398, 1532, 1533, 1534, 1535, 1536, 1537, 1551, 1552, 1553, 1554, 1555, 1562, 1563, 1564, 1565, 1566, 1567] (by decide +kernel) (by decide +kernel)
set_option maxRecDepth 20000 in
theorem gL_law_X8_meanWay : GoodIn wsL_law (wsV RL 418 RX8 yX8_meanWay wsX8_meanWay) := goodIn_app (goodIn_of _ (by decide +kernel)) ggL_law_X8_meanWay
set_option maxRecDepth 20000 in
theorem ggL_law_X9_meanWay : GoodIn wsL_law wsX9_meanWay := goodIn_r _ [1402, 115, 1403, 1404, 1405, 5, 1406, 107, 212, 213, 214, 215, 1385, 1386, 1387, 1388, 307, 308, 309, 310, 1538, 1539, 1540, 1541, 1542, 1543, 1544, 1545, 1546, 1547, 1548, 1549, 1550] (by decide +kernel) (by decide +kernel)
set_option maxRecDepth 20000 in
theorem gL_law_X9_meanWay : GoodIn wsL_law (wsV RL 422 RX9 yX9_meanWay wsX9_meanWay) := goodIn_app (goodIn_of _ (by decide +kernel)) ggL_law_X9_meanWay
set_option maxRecDepth 20000 in
theorem ggL_law_X8_meanTicks : GoodIn wsL_law wsX8_meanTicks := goodIn_r _ [1410, 16, 1396, 1397, 2, 1398, 1532, 1533, 1534, 1535, 1536, 1537, 1551, 1552, 1553, 1554, 1555, 1568, 1569, 1570, 1571, 1572, 1573, 1574] (by decide +kernel) (by decide +kernel)
set_option maxRecDepth 20000 in
theorem gL_law_X8_meanTicks : GoodIn wsL_law (wsV RL 423 RX8 yX8_meanTicks wsX8_meanTicks) := goodIn_app (goodIn_of _ (by decide +kernel)) ggL_law_X8_meanTicks
set_option maxRecDepth 20000 in
theorem ggL_law_X9_meanTicks : GoodIn wsL_law wsX9_meanTicks := goodIn_r _ [1414, 115, 1415, 1416, 1417, 5, 1418, 107, 1538, 1539, 1540, 1541, 1542, 1543, 1544, 1545, 1546, 1547, 1548, 1549, 1550] (by decide +kernel) (by decide +kernel)
set_option maxRecDepth 20000 in
theorem gL_law_X9_meanTicks : GoodIn wsL_law (wsV RL 426 RX9 yX9_meanTicks wsX9_meanTicks) := goodIn_app (goodIn_of _ (by decide +kernel)) ggL_law_X9_meanTicks
set_option maxRecDepth 20000 in
theorem ggL_law_X8_digest : GoodIn wsL_law wsX8_digest := goodIn_ca (goodIn_r _ [1422, 1423, 16, 1424, 1425, 1426, 2, 1427, 1428, 790, 791, 792, 1429, 1430, 1431, 1432, 1433, 801, 802, 803, 241, 242, 243, 244, 245, 246, 1434, 816, 817, 818, 1435, 827, 828, 829, 1436, 838, 839, 840, 1437, 1438, 1439, 1440, 849, 850, 851, 422, 423, 424, 425, 251, 34, 252, 253, 57, 1441, 860, 861, 862, 430, 15, 431, 432, 35, 43, 1442, 871, 872, 873, 1443, 1444, 1445, 1446, 896, 897, 898, 52, 53, 55, 54, 1447, 915, 916, 917, 918, 919, 920, 141, 142, 143, 144, 145, 146, 147, 151, 152, 153, 1448, 930, 931, 932, 933, 934, 935, 138, 139, 140, 148, 149, 150, 1449, 955, 956, 957, 356, 357, 358, 359, 958, 959, 960, 961, 962, 285, 963, 1450, 973, 974, 975, 1451, 981, 982, 983, 1452, 1453, 1454, 1455, 1456, 1055, 1056, 1057, 1457, 1066, 1067, 1068, 1069, 1070, 1071, 250, 1458, 1080, 1081, 1082, 1459, 1091, 1092, 1093, 1094, 1095, 1096, 1460, 1109, 1110, 1111, 1461, 1120, 1121, 1122, 1123, 1124, 1125, 1126, 1462, 1136, 1137, 1138, 1463, 1003, 1004, 1005, 1006, 1007, 1008, 694, 1464, 1465, 1466, 1467, 1468, 1018, 1019, 1020, 1469, 1029, 1030, 1031, 1032, 1033, 1034, 1035, 1470, 1044, 1045, 1046, 1471, 1472, 1473, 1474, 1475, 1148, 1149, 1150, 1476, 1159, 1160, 1161, 533, 534, 535, 536, 541, 46, 542, 543, 80, 578, 579, 580, 581, 582, 583, 584, 47, 589, 590, 591, 592, 593, 594, 595, 596, 597, 598, 599, 600, 601, 602, 1195, 1211, 1212, 1213, 1214, 28, 1215, 1216, 1217, 1218, 1219, 1220, 1221, 1222, 1223, 1224, 1225, 1226, 1278, 1279, 1280, 1281, 17, 161, 162, 163, 39, 48, 164, 165, 166, 167, 168, 169, 170, 56, 171, 38, 172, 173, 61, 62, 63, 64, 65, 66, 68, 174, 42, 175, 176, 72, 177, 73, 74, 75, 178, 179, 180, 79, 181, 585, 586, 587, 588, 603, 276, 277, 278, 279, 280, 281, 282, 283, 284, 286, 287, 288, 289, 290, 291, 292, 293, 294, 604, 605, 606, 607, 608, 433, 434, 435, 609, 326, 327, 328, 329, 330, 331, 332, 544, 545, 546, 1477, 1478, 1479, 1480, 1481, 1302, 1303, 1304, 1482, 1310, 1311, 1312, 1483, 1318, 1319, 1320, 1347, 1348, 1349, 382, 383, 384, 1484, 1374, 1375, 1376, 1377, 1378, 1379, 1380, 1485, 782, 783, 784, 21, 1486, 1408, 1409, 1410, 1396, 1397, 1398, 1487, 1488, 1489, 1490, 1491, 1492, 1493, 1390, 1391, 1392, 1393, 1394, 1395, 1494, 1495, 1496, 1497, 25, 1532, 1533, 1534, 1535, 1536, 1537, 1551, 1552, 1553, 1554, 1555, 1562, 1563, 1564, 1565, 1566, 1567, 1575, 1576, 1577, 1578, 1568, 1569, 1570, 1571, 1572, 1573, 1574, 1579, 1580, 1556, 1557, 1558, 1559, 1560, 1561] (by decide +kernel) (by decide +kernel)) (goodIn_sub (fun _ h => List.mem_append_right _ h) (by decide +kernel))
set_option maxRecDepth 20000 in
theorem gL_law_X8_digest : GoodIn wsL_law (wsV RL 427 RX8 yX8_digest wsX8_digest) := goodIn_app (goodIn_of _ (by decide +kernel)) ggL_law_X8_digest
set_option maxRecDepth 20000 in
theorem ggL_law_X9_digest : GoodIn wsL_law wsX9_digest := goodIn_r _ [1501, 115, 107, 1502, 1503, 220, 111, 507, 112, 1504, 1505, 1506, 5, 1507, 212, 213, 214, 215, 446, 447, 448, 449, 1508, 1509, 1510, 1511, 208, 209, 210, 211, 189, 190, 191, 925, 926, 927, 928, 200, 201, 202, 203, 204, 205, 206, 207, 968, 969, 970, 971, 1512, 1513, 1514, 1515, 618, 619, 620, 621, 1101, 1102, 1103, 1104, 1131, 1132, 1133, 1134, 1143, 1144, 1145, 1146, 1013, 1014, 1015, 1016, 1516, 1517, 1518, 1519, 559, 560, 561, 562, 614, 615, 616, 617, 626, 627, 628, 629, 630, 631, 632, 633, 634, 635, 636, 1286, 1287, 1288, 1289, 196, 197, 198, 199, 1253, 1254, 1255, 1256, 403, 404, 405, 406, 108, 622, 623, 624, 625, 114, 299, 300, 301, 302, 303, 304, 305, 306, 307, 308, 309, 310, 221, 222, 223, 224, 311, 312, 313, 314, 637, 638, 639, 640, 337, 338, 339, 340, 341, 342, 343, 344, 225, 226, 227, 228, 563, 564, 565, 566, 411, 412, 413, 414, 1354, 1355, 1356, 1357, 1369, 1370, 1371, 1372, 1385, 1386, 1387, 1388, 1415, 1416, 1417, 1418, 1520, 1521, 1522, 1523, 1524, 1525, 1526, 1527, 1528, 1529, 1530, 1531, 1403, 1404, 1405, 1406, 1538, 1539, 1540, 1541, 1542, 1543, 1544, 1545, 1546, 1547, 1548, 1549, 1550] (by decide +kernel) (by decide +kernel)
set_option maxRecDepth 20000 in
theorem gL_law_X9_digest : GoodIn wsL_law (wsV RL 431 RX9 yX9_digest wsX9_digest) := goodIn_app (goodIn_of _ (by decide +kernel)) ggL_law_X9_digest
theorem dL_law_0 : decode cL_law 0 = .ok (.new 8, 3) := by decide +kernel
theorem dL_law_3 : decode cL_law 3 = .ok (.dup, 1) := by decide +kernel
theorem dL_law_4 : decode cL_law 4 = .ok (.invokespecial 180, 3) := by decide +kernel
theorem dL_law_7 : decode cL_law 7 = .ok (.astore_n 1, 1) := by decide +kernel
theorem dL_law_8 : decode cL_law 8 = .ok (.new 181, 3) := by decide +kernel
theorem dL_law_11 : decode cL_law 11 = .ok (.dup, 1) := by decide +kernel
theorem dL_law_12 : decode cL_law 12 = .ok (.invokespecial 183, 3) := by decide +kernel
theorem dL_law_15 : decode cL_law 15 = .ok (.astore_n 2, 1) := by decide +kernel
theorem dL_law_16 : decode cL_law 16 = .ok (.iconst 1, 1) := by decide +kernel
theorem dL_law_17 : decode cL_law 17 = .ok (.newarray .long, 2) := by decide +kernel
theorem dL_law_19 : decode cL_law 19 = .ok (.astore_n 3, 1) := by decide +kernel
theorem dL_law_20 : decode cL_law 20 = .ok (.iconst 0, 1) := by decide +kernel
theorem dL_law_21 : decode cL_law 21 = .ok (.istore 4, 2) := by decide +kernel
theorem dL_law_23 : decode cL_law 23 = .ok (.iload 4, 2) := by decide +kernel
theorem dL_law_25 : decode cL_law 25 = .ok (.aload_n 0, 1) := by decide +kernel
theorem dL_law_26 : decode cL_law 26 = .ok (.arraylength, 1) := by decide +kernel
theorem dL_law_27 : decode cL_law 27 = .ok (.iconst 3, 1) := by decide +kernel
theorem dL_law_28 : decode cL_law 28 = .ok (.isub, 1) := by decide +kernel
theorem dL_law_29 : decode cL_law 29 = .ok (.if_icmp .gt 3533, 3) := by decide +kernel
theorem dL_law_32 : decode cL_law 32 = .ok (.aload_n 0, 1) := by decide +kernel
theorem dL_law_33 : decode cL_law 33 = .ok (.iload 4, 2) := by decide +kernel
theorem dL_law_35 : decode cL_law 35 = .ok (.iaload, 1) := by decide +kernel
theorem dL_law_36 : decode cL_law 36 = .ok (.bipush 127, 2) := by decide +kernel
theorem dL_law_38 : decode cL_law 38 = .ok (.iand, 1) := by decide +kernel
theorem dL_law_39 : decode cL_law 39 = .ok (.tableswitch 3517 0 71 #[301, 357, 413, 469, 513, 581, 625, 693, 761, 805, 861, 917, 961, 1029, 1097, 1110, 1166, 1179, 1192, 1228, 1264, 1288, 1301, 1314, 1370, 1426, 1482, 1545, 1613, 1669, 1725, 1769, 1844, 1912, 1925, 1938, 1994, 2050, 2063, 2076, 2120, 2176, 2189, 2245, 2308, 2364, 2420, 2476, 2532, 2588, 2644, 2657, 2670, 2738, 2794, 2857, 2913, 2969, 3025, 3081, 3137, 3181, 3225, 3238, 3251, 3264, 3320, 3364, 3408, 3421, 3462, 3503], 301) := by decide +kernel
theorem dL_law_340 : decode cL_law 340 = .ok (.aload_n 1, 1) := by decide +kernel
theorem dL_law_341 : decode cL_law 341 = .ok (.aload_n 0, 1) := by decide +kernel
theorem dL_law_342 : decode cL_law 342 = .ok (.iload 4, 2) := by decide +kernel
theorem dL_law_344 : decode cL_law 344 = .ok (.iconst 1, 1) := by decide +kernel
theorem dL_law_345 : decode cL_law 345 = .ok (.iadd, 1) := by decide +kernel
theorem dL_law_346 : decode cL_law 346 = .ok (.iaload, 1) := by decide +kernel
theorem dL_law_347 : decode cL_law 347 = .ok (.aload_n 3, 1) := by decide +kernel
theorem dL_law_348 : decode cL_law 348 = .ok (.invokestatic 184, 3) := by decide +kernel
theorem dL_law_351 : decode cL_law 351 = .ok (.istore 5, 2) := by decide +kernel
theorem dL_law_353 : decode cL_law 353 = .ok (.aload_n 2, 1) := by decide +kernel
theorem dL_law_354 : decode cL_law 354 = .ok (.aload_n 0, 1) := by decide +kernel
theorem dL_law_355 : decode cL_law 355 = .ok (.iload 4, 2) := by decide +kernel
theorem dL_law_357 : decode cL_law 357 = .ok (.iconst 1, 1) := by decide +kernel
theorem dL_law_358 : decode cL_law 358 = .ok (.iadd, 1) := by decide +kernel
theorem dL_law_359 : decode cL_law 359 = .ok (.iaload, 1) := by decide +kernel
theorem dL_law_360 : decode cL_law 360 = .ok (.invokevirtual 189, 3) := by decide +kernel
theorem dL_law_363 : decode cL_law 363 = .ok (.istore 6, 2) := by decide +kernel
theorem dL_law_365 : decode cL_law 365 = .ok (.aload_n 2, 1) := by decide +kernel
theorem dL_law_366 : decode cL_law 366 = .ok (.invokevirtual 190, 3) := by decide +kernel
theorem dL_law_369 : decode cL_law 369 = .ok (.iload 5, 2) := by decide +kernel
theorem dL_law_371 : decode cL_law 371 = .ok (.if_icmp .eq 5, 3) := by decide +kernel
theorem dL_law_374 : decode cL_law 374 = .ok (.iconst 0, 1) := by decide +kernel
theorem dL_law_375 : decode cL_law 375 = .ok (.ireturn, 1) := by decide +kernel
theorem dL_law_376 : decode cL_law 376 = .ok (.iload 5, 2) := by decide +kernel
theorem dL_law_378 : decode cL_law 378 = .ok (.ifCond .ne 15, 3) := by decide +kernel
theorem dL_law_381 : decode cL_law 381 = .ok (.aload_n 3, 1) := by decide +kernel
theorem dL_law_382 : decode cL_law 382 = .ok (.iconst 0, 1) := by decide +kernel
theorem dL_law_383 : decode cL_law 383 = .ok (.laload, 1) := by decide +kernel
theorem dL_law_384 : decode cL_law 384 = .ok (.iload 6, 2) := by decide +kernel
theorem dL_law_386 : decode cL_law 386 = .ok (.i2l, 1) := by decide +kernel
theorem dL_law_387 : decode cL_law 387 = .ok (.lcmp, 1) := by decide +kernel
theorem dL_law_388 : decode cL_law 388 = .ok (.ifCond .eq 5, 3) := by decide +kernel
theorem dL_law_391 : decode cL_law 391 = .ok (.iconst 0, 1) := by decide +kernel
theorem dL_law_392 : decode cL_law 392 = .ok (.ireturn, 1) := by decide +kernel
theorem dL_law_393 : decode cL_law 393 = .ok (.goto 3163, 3) := by decide +kernel
theorem dL_law_396 : decode cL_law 396 = .ok (.aload_n 1, 1) := by decide +kernel
theorem dL_law_397 : decode cL_law 397 = .ok (.aload_n 0, 1) := by decide +kernel
theorem dL_law_398 : decode cL_law 398 = .ok (.iload 4, 2) := by decide +kernel
theorem dL_law_400 : decode cL_law 400 = .ok (.iconst 1, 1) := by decide +kernel
theorem dL_law_401 : decode cL_law 401 = .ok (.iadd, 1) := by decide +kernel
theorem dL_law_402 : decode cL_law 402 = .ok (.iaload, 1) := by decide +kernel
theorem dL_law_403 : decode cL_law 403 = .ok (.aload_n 3, 1) := by decide +kernel
theorem dL_law_404 : decode cL_law 404 = .ok (.invokestatic 193, 3) := by decide +kernel
theorem dL_law_407 : decode cL_law 407 = .ok (.istore 5, 2) := by decide +kernel
theorem dL_law_409 : decode cL_law 409 = .ok (.aload_n 2, 1) := by decide +kernel
theorem dL_law_410 : decode cL_law 410 = .ok (.aload_n 0, 1) := by decide +kernel
theorem dL_law_411 : decode cL_law 411 = .ok (.iload 4, 2) := by decide +kernel
theorem dL_law_413 : decode cL_law 413 = .ok (.iconst 1, 1) := by decide +kernel
theorem dL_law_414 : decode cL_law 414 = .ok (.iadd, 1) := by decide +kernel
theorem dL_law_415 : decode cL_law 415 = .ok (.iaload, 1) := by decide +kernel
theorem dL_law_416 : decode cL_law 416 = .ok (.invokevirtual 195, 3) := by decide +kernel
theorem dL_law_419 : decode cL_law 419 = .ok (.istore 6, 2) := by decide +kernel
theorem dL_law_421 : decode cL_law 421 = .ok (.aload_n 2, 1) := by decide +kernel
theorem dL_law_422 : decode cL_law 422 = .ok (.invokevirtual 190, 3) := by decide +kernel
theorem dL_law_425 : decode cL_law 425 = .ok (.iload 5, 2) := by decide +kernel
theorem dL_law_427 : decode cL_law 427 = .ok (.if_icmp .eq 5, 3) := by decide +kernel
theorem dL_law_430 : decode cL_law 430 = .ok (.iconst 0, 1) := by decide +kernel
theorem dL_law_431 : decode cL_law 431 = .ok (.ireturn, 1) := by decide +kernel
theorem dL_law_432 : decode cL_law 432 = .ok (.iload 5, 2) := by decide +kernel
theorem dL_law_434 : decode cL_law 434 = .ok (.ifCond .ne 15, 3) := by decide +kernel
theorem dL_law_437 : decode cL_law 437 = .ok (.aload_n 3, 1) := by decide +kernel
theorem dL_law_438 : decode cL_law 438 = .ok (.iconst 0, 1) := by decide +kernel
theorem dL_law_439 : decode cL_law 439 = .ok (.laload, 1) := by decide +kernel
theorem dL_law_440 : decode cL_law 440 = .ok (.iload 6, 2) := by decide +kernel
theorem dL_law_442 : decode cL_law 442 = .ok (.i2l, 1) := by decide +kernel
theorem dL_law_443 : decode cL_law 443 = .ok (.lcmp, 1) := by decide +kernel
theorem dL_law_444 : decode cL_law 444 = .ok (.ifCond .eq 5, 3) := by decide +kernel
theorem dL_law_447 : decode cL_law 447 = .ok (.iconst 0, 1) := by decide +kernel
theorem dL_law_448 : decode cL_law 448 = .ok (.ireturn, 1) := by decide +kernel
theorem dL_law_449 : decode cL_law 449 = .ok (.goto 3107, 3) := by decide +kernel
theorem dL_law_452 : decode cL_law 452 = .ok (.aload_n 1, 1) := by decide +kernel
theorem dL_law_453 : decode cL_law 453 = .ok (.aload_n 0, 1) := by decide +kernel
theorem dL_law_454 : decode cL_law 454 = .ok (.iload 4, 2) := by decide +kernel
theorem dL_law_456 : decode cL_law 456 = .ok (.iconst 1, 1) := by decide +kernel
theorem dL_law_457 : decode cL_law 457 = .ok (.iadd, 1) := by decide +kernel
theorem dL_law_458 : decode cL_law 458 = .ok (.iaload, 1) := by decide +kernel
theorem dL_law_459 : decode cL_law 459 = .ok (.aload_n 3, 1) := by decide +kernel
theorem dL_law_460 : decode cL_law 460 = .ok (.invokestatic 196, 3) := by decide +kernel
theorem dL_law_463 : decode cL_law 463 = .ok (.istore 5, 2) := by decide +kernel
theorem dL_law_465 : decode cL_law 465 = .ok (.aload_n 2, 1) := by decide +kernel
theorem dL_law_466 : decode cL_law 466 = .ok (.aload_n 0, 1) := by decide +kernel
theorem dL_law_467 : decode cL_law 467 = .ok (.iload 4, 2) := by decide +kernel
theorem dL_law_469 : decode cL_law 469 = .ok (.iconst 1, 1) := by decide +kernel
theorem dL_law_470 : decode cL_law 470 = .ok (.iadd, 1) := by decide +kernel
theorem dL_law_471 : decode cL_law 471 = .ok (.iaload, 1) := by decide +kernel
theorem dL_law_472 : decode cL_law 472 = .ok (.invokevirtual 198, 3) := by decide +kernel
theorem dL_law_475 : decode cL_law 475 = .ok (.istore 6, 2) := by decide +kernel
theorem dL_law_477 : decode cL_law 477 = .ok (.aload_n 2, 1) := by decide +kernel
theorem dL_law_478 : decode cL_law 478 = .ok (.invokevirtual 190, 3) := by decide +kernel
theorem dL_law_481 : decode cL_law 481 = .ok (.iload 5, 2) := by decide +kernel
theorem dL_law_483 : decode cL_law 483 = .ok (.if_icmp .eq 5, 3) := by decide +kernel
theorem dL_law_486 : decode cL_law 486 = .ok (.iconst 0, 1) := by decide +kernel
theorem dL_law_487 : decode cL_law 487 = .ok (.ireturn, 1) := by decide +kernel
theorem dL_law_488 : decode cL_law 488 = .ok (.iload 5, 2) := by decide +kernel
theorem dL_law_490 : decode cL_law 490 = .ok (.ifCond .ne 15, 3) := by decide +kernel
theorem dL_law_493 : decode cL_law 493 = .ok (.aload_n 3, 1) := by decide +kernel
theorem dL_law_494 : decode cL_law 494 = .ok (.iconst 0, 1) := by decide +kernel
theorem dL_law_495 : decode cL_law 495 = .ok (.laload, 1) := by decide +kernel
theorem dL_law_496 : decode cL_law 496 = .ok (.iload 6, 2) := by decide +kernel
theorem dL_law_498 : decode cL_law 498 = .ok (.i2l, 1) := by decide +kernel
theorem dL_law_499 : decode cL_law 499 = .ok (.lcmp, 1) := by decide +kernel
theorem dL_law_500 : decode cL_law 500 = .ok (.ifCond .eq 5, 3) := by decide +kernel
theorem dL_law_503 : decode cL_law 503 = .ok (.iconst 0, 1) := by decide +kernel
theorem dL_law_504 : decode cL_law 504 = .ok (.ireturn, 1) := by decide +kernel
theorem dL_law_505 : decode cL_law 505 = .ok (.goto 3051, 3) := by decide +kernel
theorem dL_law_508 : decode cL_law 508 = .ok (.aload_n 1, 1) := by decide +kernel
theorem dL_law_509 : decode cL_law 509 = .ok (.aload_n 3, 1) := by decide +kernel
theorem dL_law_510 : decode cL_law 510 = .ok (.invokestatic 199, 3) := by decide +kernel
theorem dL_law_513 : decode cL_law 513 = .ok (.istore 5, 2) := by decide +kernel
theorem dL_law_515 : decode cL_law 515 = .ok (.aload_n 2, 1) := by decide +kernel
theorem dL_law_516 : decode cL_law 516 = .ok (.invokevirtual 202, 3) := by decide +kernel
theorem dL_law_519 : decode cL_law 519 = .ok (.istore 6, 2) := by decide +kernel
theorem dL_law_521 : decode cL_law 521 = .ok (.aload_n 2, 1) := by decide +kernel
theorem dL_law_522 : decode cL_law 522 = .ok (.invokevirtual 190, 3) := by decide +kernel
theorem dL_law_525 : decode cL_law 525 = .ok (.iload 5, 2) := by decide +kernel
theorem dL_law_527 : decode cL_law 527 = .ok (.if_icmp .eq 5, 3) := by decide +kernel
theorem dL_law_530 : decode cL_law 530 = .ok (.iconst 0, 1) := by decide +kernel
theorem dL_law_531 : decode cL_law 531 = .ok (.ireturn, 1) := by decide +kernel
theorem dL_law_532 : decode cL_law 532 = .ok (.iload 5, 2) := by decide +kernel
theorem dL_law_534 : decode cL_law 534 = .ok (.ifCond .ne 15, 3) := by decide +kernel
theorem dL_law_537 : decode cL_law 537 = .ok (.aload_n 3, 1) := by decide +kernel
theorem dL_law_538 : decode cL_law 538 = .ok (.iconst 0, 1) := by decide +kernel
theorem dL_law_539 : decode cL_law 539 = .ok (.laload, 1) := by decide +kernel
theorem dL_law_540 : decode cL_law 540 = .ok (.iload 6, 2) := by decide +kernel
theorem dL_law_542 : decode cL_law 542 = .ok (.i2l, 1) := by decide +kernel
theorem dL_law_543 : decode cL_law 543 = .ok (.lcmp, 1) := by decide +kernel
theorem dL_law_544 : decode cL_law 544 = .ok (.ifCond .eq 5, 3) := by decide +kernel
theorem dL_law_547 : decode cL_law 547 = .ok (.iconst 0, 1) := by decide +kernel
theorem dL_law_548 : decode cL_law 548 = .ok (.ireturn, 1) := by decide +kernel
theorem dL_law_549 : decode cL_law 549 = .ok (.goto 3007, 3) := by decide +kernel
theorem dL_law_552 : decode cL_law 552 = .ok (.aload_n 1, 1) := by decide +kernel
theorem dL_law_553 : decode cL_law 553 = .ok (.aload_n 0, 1) := by decide +kernel
theorem dL_law_554 : decode cL_law 554 = .ok (.iload 4, 2) := by decide +kernel
theorem dL_law_556 : decode cL_law 556 = .ok (.iconst 1, 1) := by decide +kernel
theorem dL_law_557 : decode cL_law 557 = .ok (.iadd, 1) := by decide +kernel
theorem dL_law_558 : decode cL_law 558 = .ok (.iaload, 1) := by decide +kernel
theorem dL_law_559 : decode cL_law 559 = .ok (.aload_n 0, 1) := by decide +kernel
theorem dL_law_560 : decode cL_law 560 = .ok (.iload 4, 2) := by decide +kernel
theorem dL_law_562 : decode cL_law 562 = .ok (.iconst 2, 1) := by decide +kernel
theorem dL_law_563 : decode cL_law 563 = .ok (.iadd, 1) := by decide +kernel
theorem dL_law_564 : decode cL_law 564 = .ok (.iaload, 1) := by decide +kernel
theorem dL_law_565 : decode cL_law 565 = .ok (.aload_n 3, 1) := by decide +kernel
theorem dL_law_566 : decode cL_law 566 = .ok (.invokestatic 203, 3) := by decide +kernel
theorem dL_law_569 : decode cL_law 569 = .ok (.istore 5, 2) := by decide +kernel
theorem dL_law_571 : decode cL_law 571 = .ok (.aload_n 2, 1) := by decide +kernel
theorem dL_law_572 : decode cL_law 572 = .ok (.aload_n 0, 1) := by decide +kernel
theorem dL_law_573 : decode cL_law 573 = .ok (.iload 4, 2) := by decide +kernel
theorem dL_law_575 : decode cL_law 575 = .ok (.iconst 1, 1) := by decide +kernel
theorem dL_law_576 : decode cL_law 576 = .ok (.iadd, 1) := by decide +kernel
theorem dL_law_577 : decode cL_law 577 = .ok (.iaload, 1) := by decide +kernel
theorem dL_law_578 : decode cL_law 578 = .ok (.aload_n 0, 1) := by decide +kernel
theorem dL_law_579 : decode cL_law 579 = .ok (.iload 4, 2) := by decide +kernel
theorem dL_law_581 : decode cL_law 581 = .ok (.iconst 2, 1) := by decide +kernel
theorem dL_law_582 : decode cL_law 582 = .ok (.iadd, 1) := by decide +kernel
theorem dL_law_583 : decode cL_law 583 = .ok (.iaload, 1) := by decide +kernel
theorem dL_law_584 : decode cL_law 584 = .ok (.invokevirtual 206, 3) := by decide +kernel
theorem dL_law_587 : decode cL_law 587 = .ok (.istore 6, 2) := by decide +kernel
theorem dL_law_589 : decode cL_law 589 = .ok (.aload_n 2, 1) := by decide +kernel
theorem dL_law_590 : decode cL_law 590 = .ok (.invokevirtual 190, 3) := by decide +kernel
theorem dL_law_593 : decode cL_law 593 = .ok (.iload 5, 2) := by decide +kernel
theorem dL_law_595 : decode cL_law 595 = .ok (.if_icmp .eq 5, 3) := by decide +kernel
theorem dL_law_598 : decode cL_law 598 = .ok (.iconst 0, 1) := by decide +kernel
theorem dL_law_599 : decode cL_law 599 = .ok (.ireturn, 1) := by decide +kernel
theorem dL_law_600 : decode cL_law 600 = .ok (.iload 5, 2) := by decide +kernel
theorem dL_law_602 : decode cL_law 602 = .ok (.ifCond .ne 15, 3) := by decide +kernel
theorem dL_law_605 : decode cL_law 605 = .ok (.aload_n 3, 1) := by decide +kernel
theorem dL_law_606 : decode cL_law 606 = .ok (.iconst 0, 1) := by decide +kernel
theorem dL_law_607 : decode cL_law 607 = .ok (.laload, 1) := by decide +kernel
theorem dL_law_608 : decode cL_law 608 = .ok (.iload 6, 2) := by decide +kernel
theorem dL_law_610 : decode cL_law 610 = .ok (.i2l, 1) := by decide +kernel
theorem dL_law_611 : decode cL_law 611 = .ok (.lcmp, 1) := by decide +kernel
theorem dL_law_612 : decode cL_law 612 = .ok (.ifCond .eq 5, 3) := by decide +kernel
theorem dL_law_615 : decode cL_law 615 = .ok (.iconst 0, 1) := by decide +kernel
theorem dL_law_616 : decode cL_law 616 = .ok (.ireturn, 1) := by decide +kernel
theorem dL_law_617 : decode cL_law 617 = .ok (.goto 2939, 3) := by decide +kernel
theorem dL_law_620 : decode cL_law 620 = .ok (.aload_n 1, 1) := by decide +kernel
theorem dL_law_621 : decode cL_law 621 = .ok (.aload_n 3, 1) := by decide +kernel
theorem dL_law_622 : decode cL_law 622 = .ok (.invokestatic 207, 3) := by decide +kernel
theorem dL_law_625 : decode cL_law 625 = .ok (.istore 5, 2) := by decide +kernel
theorem dL_law_627 : decode cL_law 627 = .ok (.aload_n 2, 1) := by decide +kernel
theorem dL_law_628 : decode cL_law 628 = .ok (.invokevirtual 209, 3) := by decide +kernel
theorem dL_law_631 : decode cL_law 631 = .ok (.istore 6, 2) := by decide +kernel
theorem dL_law_633 : decode cL_law 633 = .ok (.aload_n 2, 1) := by decide +kernel
theorem dL_law_634 : decode cL_law 634 = .ok (.invokevirtual 190, 3) := by decide +kernel
theorem dL_law_637 : decode cL_law 637 = .ok (.iload 5, 2) := by decide +kernel
theorem dL_law_639 : decode cL_law 639 = .ok (.if_icmp .eq 5, 3) := by decide +kernel
theorem dL_law_642 : decode cL_law 642 = .ok (.iconst 0, 1) := by decide +kernel
theorem dL_law_643 : decode cL_law 643 = .ok (.ireturn, 1) := by decide +kernel
theorem dL_law_644 : decode cL_law 644 = .ok (.iload 5, 2) := by decide +kernel
theorem dL_law_646 : decode cL_law 646 = .ok (.ifCond .ne 15, 3) := by decide +kernel
theorem dL_law_649 : decode cL_law 649 = .ok (.aload_n 3, 1) := by decide +kernel
theorem dL_law_650 : decode cL_law 650 = .ok (.iconst 0, 1) := by decide +kernel
theorem dL_law_651 : decode cL_law 651 = .ok (.laload, 1) := by decide +kernel
theorem dL_law_652 : decode cL_law 652 = .ok (.iload 6, 2) := by decide +kernel
theorem dL_law_654 : decode cL_law 654 = .ok (.i2l, 1) := by decide +kernel
theorem dL_law_655 : decode cL_law 655 = .ok (.lcmp, 1) := by decide +kernel
theorem dL_law_656 : decode cL_law 656 = .ok (.ifCond .eq 5, 3) := by decide +kernel
theorem dL_law_659 : decode cL_law 659 = .ok (.iconst 0, 1) := by decide +kernel
theorem dL_law_660 : decode cL_law 660 = .ok (.ireturn, 1) := by decide +kernel
theorem dL_law_661 : decode cL_law 661 = .ok (.goto 2895, 3) := by decide +kernel
theorem dL_law_664 : decode cL_law 664 = .ok (.aload_n 1, 1) := by decide +kernel
theorem dL_law_665 : decode cL_law 665 = .ok (.aload_n 0, 1) := by decide +kernel
theorem dL_law_666 : decode cL_law 666 = .ok (.iload 4, 2) := by decide +kernel
theorem dL_law_668 : decode cL_law 668 = .ok (.iconst 1, 1) := by decide +kernel
theorem dL_law_669 : decode cL_law 669 = .ok (.iadd, 1) := by decide +kernel
theorem dL_law_670 : decode cL_law 670 = .ok (.iaload, 1) := by decide +kernel
theorem dL_law_671 : decode cL_law 671 = .ok (.aload_n 0, 1) := by decide +kernel
theorem dL_law_672 : decode cL_law 672 = .ok (.iload 4, 2) := by decide +kernel
theorem dL_law_674 : decode cL_law 674 = .ok (.iconst 2, 1) := by decide +kernel
theorem dL_law_675 : decode cL_law 675 = .ok (.iadd, 1) := by decide +kernel
theorem dL_law_676 : decode cL_law 676 = .ok (.iaload, 1) := by decide +kernel
theorem dL_law_677 : decode cL_law 677 = .ok (.aload_n 3, 1) := by decide +kernel
theorem dL_law_678 : decode cL_law 678 = .ok (.invokestatic 210, 3) := by decide +kernel
theorem dL_law_681 : decode cL_law 681 = .ok (.istore 5, 2) := by decide +kernel
theorem dL_law_683 : decode cL_law 683 = .ok (.aload_n 2, 1) := by decide +kernel
theorem dL_law_684 : decode cL_law 684 = .ok (.aload_n 0, 1) := by decide +kernel
theorem dL_law_685 : decode cL_law 685 = .ok (.iload 4, 2) := by decide +kernel
theorem dL_law_687 : decode cL_law 687 = .ok (.iconst 1, 1) := by decide +kernel
theorem dL_law_688 : decode cL_law 688 = .ok (.iadd, 1) := by decide +kernel
theorem dL_law_689 : decode cL_law 689 = .ok (.iaload, 1) := by decide +kernel
theorem dL_law_690 : decode cL_law 690 = .ok (.aload_n 0, 1) := by decide +kernel
theorem dL_law_691 : decode cL_law 691 = .ok (.iload 4, 2) := by decide +kernel
theorem dL_law_693 : decode cL_law 693 = .ok (.iconst 2, 1) := by decide +kernel
theorem dL_law_694 : decode cL_law 694 = .ok (.iadd, 1) := by decide +kernel
theorem dL_law_695 : decode cL_law 695 = .ok (.iaload, 1) := by decide +kernel
theorem dL_law_696 : decode cL_law 696 = .ok (.invokevirtual 212, 3) := by decide +kernel
theorem dL_law_699 : decode cL_law 699 = .ok (.istore 6, 2) := by decide +kernel
theorem dL_law_701 : decode cL_law 701 = .ok (.aload_n 2, 1) := by decide +kernel
theorem dL_law_702 : decode cL_law 702 = .ok (.invokevirtual 190, 3) := by decide +kernel
theorem dL_law_705 : decode cL_law 705 = .ok (.iload 5, 2) := by decide +kernel
theorem dL_law_707 : decode cL_law 707 = .ok (.if_icmp .eq 5, 3) := by decide +kernel
theorem dL_law_710 : decode cL_law 710 = .ok (.iconst 0, 1) := by decide +kernel
theorem dL_law_711 : decode cL_law 711 = .ok (.ireturn, 1) := by decide +kernel
theorem dL_law_712 : decode cL_law 712 = .ok (.iload 5, 2) := by decide +kernel
theorem dL_law_714 : decode cL_law 714 = .ok (.ifCond .ne 15, 3) := by decide +kernel
theorem dL_law_717 : decode cL_law 717 = .ok (.aload_n 3, 1) := by decide +kernel
theorem dL_law_718 : decode cL_law 718 = .ok (.iconst 0, 1) := by decide +kernel
theorem dL_law_719 : decode cL_law 719 = .ok (.laload, 1) := by decide +kernel
theorem dL_law_720 : decode cL_law 720 = .ok (.iload 6, 2) := by decide +kernel
theorem dL_law_722 : decode cL_law 722 = .ok (.i2l, 1) := by decide +kernel
theorem dL_law_723 : decode cL_law 723 = .ok (.lcmp, 1) := by decide +kernel
theorem dL_law_724 : decode cL_law 724 = .ok (.ifCond .eq 5, 3) := by decide +kernel
theorem dL_law_727 : decode cL_law 727 = .ok (.iconst 0, 1) := by decide +kernel
theorem dL_law_728 : decode cL_law 728 = .ok (.ireturn, 1) := by decide +kernel
theorem dL_law_729 : decode cL_law 729 = .ok (.goto 2827, 3) := by decide +kernel
theorem dL_law_732 : decode cL_law 732 = .ok (.aload_n 1, 1) := by decide +kernel
theorem dL_law_733 : decode cL_law 733 = .ok (.aload_n 0, 1) := by decide +kernel
theorem dL_law_734 : decode cL_law 734 = .ok (.iload 4, 2) := by decide +kernel
theorem dL_law_736 : decode cL_law 736 = .ok (.iconst 1, 1) := by decide +kernel
theorem dL_law_737 : decode cL_law 737 = .ok (.iadd, 1) := by decide +kernel
theorem dL_law_738 : decode cL_law 738 = .ok (.iaload, 1) := by decide +kernel
theorem dL_law_739 : decode cL_law 739 = .ok (.aload_n 0, 1) := by decide +kernel
theorem dL_law_740 : decode cL_law 740 = .ok (.iload 4, 2) := by decide +kernel
theorem dL_law_742 : decode cL_law 742 = .ok (.iconst 2, 1) := by decide +kernel
theorem dL_law_743 : decode cL_law 743 = .ok (.iadd, 1) := by decide +kernel
theorem dL_law_744 : decode cL_law 744 = .ok (.iaload, 1) := by decide +kernel
theorem dL_law_745 : decode cL_law 745 = .ok (.aload_n 3, 1) := by decide +kernel
theorem dL_law_746 : decode cL_law 746 = .ok (.invokestatic 213, 3) := by decide +kernel
theorem dL_law_749 : decode cL_law 749 = .ok (.istore 5, 2) := by decide +kernel
theorem dL_law_751 : decode cL_law 751 = .ok (.aload_n 2, 1) := by decide +kernel
theorem dL_law_752 : decode cL_law 752 = .ok (.aload_n 0, 1) := by decide +kernel
theorem dL_law_753 : decode cL_law 753 = .ok (.iload 4, 2) := by decide +kernel
theorem dL_law_755 : decode cL_law 755 = .ok (.iconst 1, 1) := by decide +kernel
theorem dL_law_756 : decode cL_law 756 = .ok (.iadd, 1) := by decide +kernel
theorem dL_law_757 : decode cL_law 757 = .ok (.iaload, 1) := by decide +kernel
theorem dL_law_758 : decode cL_law 758 = .ok (.aload_n 0, 1) := by decide +kernel
theorem dL_law_759 : decode cL_law 759 = .ok (.iload 4, 2) := by decide +kernel
theorem dL_law_761 : decode cL_law 761 = .ok (.iconst 2, 1) := by decide +kernel
theorem dL_law_762 : decode cL_law 762 = .ok (.iadd, 1) := by decide +kernel
theorem dL_law_763 : decode cL_law 763 = .ok (.iaload, 1) := by decide +kernel
theorem dL_law_764 : decode cL_law 764 = .ok (.invokevirtual 215, 3) := by decide +kernel
theorem dL_law_767 : decode cL_law 767 = .ok (.istore 6, 2) := by decide +kernel
theorem dL_law_769 : decode cL_law 769 = .ok (.aload_n 2, 1) := by decide +kernel
theorem dL_law_770 : decode cL_law 770 = .ok (.invokevirtual 190, 3) := by decide +kernel
theorem dL_law_773 : decode cL_law 773 = .ok (.iload 5, 2) := by decide +kernel
theorem dL_law_775 : decode cL_law 775 = .ok (.if_icmp .eq 5, 3) := by decide +kernel
theorem dL_law_778 : decode cL_law 778 = .ok (.iconst 0, 1) := by decide +kernel
theorem dL_law_779 : decode cL_law 779 = .ok (.ireturn, 1) := by decide +kernel
theorem dL_law_780 : decode cL_law 780 = .ok (.iload 5, 2) := by decide +kernel
theorem dL_law_782 : decode cL_law 782 = .ok (.ifCond .ne 15, 3) := by decide +kernel
theorem dL_law_785 : decode cL_law 785 = .ok (.aload_n 3, 1) := by decide +kernel
theorem dL_law_786 : decode cL_law 786 = .ok (.iconst 0, 1) := by decide +kernel
theorem dL_law_787 : decode cL_law 787 = .ok (.laload, 1) := by decide +kernel
theorem dL_law_788 : decode cL_law 788 = .ok (.iload 6, 2) := by decide +kernel
theorem dL_law_790 : decode cL_law 790 = .ok (.i2l, 1) := by decide +kernel
theorem dL_law_791 : decode cL_law 791 = .ok (.lcmp, 1) := by decide +kernel
theorem dL_law_792 : decode cL_law 792 = .ok (.ifCond .eq 5, 3) := by decide +kernel
theorem dL_law_795 : decode cL_law 795 = .ok (.iconst 0, 1) := by decide +kernel
theorem dL_law_796 : decode cL_law 796 = .ok (.ireturn, 1) := by decide +kernel
theorem dL_law_797 : decode cL_law 797 = .ok (.goto 2759, 3) := by decide +kernel
theorem dL_law_800 : decode cL_law 800 = .ok (.aload_n 1, 1) := by decide +kernel
theorem dL_law_801 : decode cL_law 801 = .ok (.aload_n 3, 1) := by decide +kernel
theorem dL_law_802 : decode cL_law 802 = .ok (.invokestatic 216, 3) := by decide +kernel
theorem dL_law_805 : decode cL_law 805 = .ok (.istore 5, 2) := by decide +kernel
theorem dL_law_807 : decode cL_law 807 = .ok (.aload_n 2, 1) := by decide +kernel
theorem dL_law_808 : decode cL_law 808 = .ok (.invokevirtual 218, 3) := by decide +kernel
theorem dL_law_811 : decode cL_law 811 = .ok (.istore 6, 2) := by decide +kernel
theorem dL_law_813 : decode cL_law 813 = .ok (.aload_n 2, 1) := by decide +kernel
theorem dL_law_814 : decode cL_law 814 = .ok (.invokevirtual 190, 3) := by decide +kernel
theorem dL_law_817 : decode cL_law 817 = .ok (.iload 5, 2) := by decide +kernel
theorem dL_law_819 : decode cL_law 819 = .ok (.if_icmp .eq 5, 3) := by decide +kernel
theorem dL_law_822 : decode cL_law 822 = .ok (.iconst 0, 1) := by decide +kernel
theorem dL_law_823 : decode cL_law 823 = .ok (.ireturn, 1) := by decide +kernel
theorem dL_law_824 : decode cL_law 824 = .ok (.iload 5, 2) := by decide +kernel
theorem dL_law_826 : decode cL_law 826 = .ok (.ifCond .ne 15, 3) := by decide +kernel
theorem dL_law_829 : decode cL_law 829 = .ok (.aload_n 3, 1) := by decide +kernel
theorem dL_law_830 : decode cL_law 830 = .ok (.iconst 0, 1) := by decide +kernel
theorem dL_law_831 : decode cL_law 831 = .ok (.laload, 1) := by decide +kernel
theorem dL_law_832 : decode cL_law 832 = .ok (.iload 6, 2) := by decide +kernel
theorem dL_law_834 : decode cL_law 834 = .ok (.i2l, 1) := by decide +kernel
theorem dL_law_835 : decode cL_law 835 = .ok (.lcmp, 1) := by decide +kernel
theorem dL_law_836 : decode cL_law 836 = .ok (.ifCond .eq 5, 3) := by decide +kernel
theorem dL_law_839 : decode cL_law 839 = .ok (.iconst 0, 1) := by decide +kernel
theorem dL_law_840 : decode cL_law 840 = .ok (.ireturn, 1) := by decide +kernel
theorem dL_law_841 : decode cL_law 841 = .ok (.goto 2715, 3) := by decide +kernel
theorem dL_law_844 : decode cL_law 844 = .ok (.aload_n 1, 1) := by decide +kernel
theorem dL_law_845 : decode cL_law 845 = .ok (.aload_n 0, 1) := by decide +kernel
theorem dL_law_846 : decode cL_law 846 = .ok (.iload 4, 2) := by decide +kernel
theorem dL_law_848 : decode cL_law 848 = .ok (.iconst 1, 1) := by decide +kernel
theorem dL_law_849 : decode cL_law 849 = .ok (.iadd, 1) := by decide +kernel
theorem dL_law_850 : decode cL_law 850 = .ok (.iaload, 1) := by decide +kernel
theorem dL_law_851 : decode cL_law 851 = .ok (.aload_n 3, 1) := by decide +kernel
theorem dL_law_852 : decode cL_law 852 = .ok (.invokestatic 219, 3) := by decide +kernel
theorem dL_law_855 : decode cL_law 855 = .ok (.istore 5, 2) := by decide +kernel
theorem dL_law_857 : decode cL_law 857 = .ok (.aload_n 2, 1) := by decide +kernel
theorem dL_law_858 : decode cL_law 858 = .ok (.aload_n 0, 1) := by decide +kernel
theorem dL_law_859 : decode cL_law 859 = .ok (.iload 4, 2) := by decide +kernel
theorem dL_law_861 : decode cL_law 861 = .ok (.iconst 1, 1) := by decide +kernel
theorem dL_law_862 : decode cL_law 862 = .ok (.iadd, 1) := by decide +kernel
theorem dL_law_863 : decode cL_law 863 = .ok (.iaload, 1) := by decide +kernel
theorem dL_law_864 : decode cL_law 864 = .ok (.invokevirtual 221, 3) := by decide +kernel
theorem dL_law_867 : decode cL_law 867 = .ok (.istore 6, 2) := by decide +kernel
theorem dL_law_869 : decode cL_law 869 = .ok (.aload_n 2, 1) := by decide +kernel
theorem dL_law_870 : decode cL_law 870 = .ok (.invokevirtual 190, 3) := by decide +kernel
theorem dL_law_873 : decode cL_law 873 = .ok (.iload 5, 2) := by decide +kernel
theorem dL_law_875 : decode cL_law 875 = .ok (.if_icmp .eq 5, 3) := by decide +kernel
theorem dL_law_878 : decode cL_law 878 = .ok (.iconst 0, 1) := by decide +kernel
theorem dL_law_879 : decode cL_law 879 = .ok (.ireturn, 1) := by decide +kernel
theorem dL_law_880 : decode cL_law 880 = .ok (.iload 5, 2) := by decide +kernel
theorem dL_law_882 : decode cL_law 882 = .ok (.ifCond .ne 15, 3) := by decide +kernel
theorem dL_law_885 : decode cL_law 885 = .ok (.aload_n 3, 1) := by decide +kernel
theorem dL_law_886 : decode cL_law 886 = .ok (.iconst 0, 1) := by decide +kernel
theorem dL_law_887 : decode cL_law 887 = .ok (.laload, 1) := by decide +kernel
theorem dL_law_888 : decode cL_law 888 = .ok (.iload 6, 2) := by decide +kernel
theorem dL_law_890 : decode cL_law 890 = .ok (.i2l, 1) := by decide +kernel
theorem dL_law_891 : decode cL_law 891 = .ok (.lcmp, 1) := by decide +kernel
theorem dL_law_892 : decode cL_law 892 = .ok (.ifCond .eq 5, 3) := by decide +kernel
theorem dL_law_895 : decode cL_law 895 = .ok (.iconst 0, 1) := by decide +kernel
theorem dL_law_896 : decode cL_law 896 = .ok (.ireturn, 1) := by decide +kernel
theorem dL_law_897 : decode cL_law 897 = .ok (.goto 2659, 3) := by decide +kernel
theorem dL_law_900 : decode cL_law 900 = .ok (.aload_n 1, 1) := by decide +kernel
theorem dL_law_901 : decode cL_law 901 = .ok (.aload_n 0, 1) := by decide +kernel
theorem dL_law_902 : decode cL_law 902 = .ok (.iload 4, 2) := by decide +kernel
theorem dL_law_904 : decode cL_law 904 = .ok (.iconst 1, 1) := by decide +kernel
theorem dL_law_905 : decode cL_law 905 = .ok (.iadd, 1) := by decide +kernel
theorem dL_law_906 : decode cL_law 906 = .ok (.iaload, 1) := by decide +kernel
theorem dL_law_907 : decode cL_law 907 = .ok (.aload_n 3, 1) := by decide +kernel
theorem dL_law_908 : decode cL_law 908 = .ok (.invokestatic 222, 3) := by decide +kernel
theorem dL_law_911 : decode cL_law 911 = .ok (.istore 5, 2) := by decide +kernel
theorem dL_law_913 : decode cL_law 913 = .ok (.aload_n 2, 1) := by decide +kernel
theorem dL_law_914 : decode cL_law 914 = .ok (.aload_n 0, 1) := by decide +kernel
theorem dL_law_915 : decode cL_law 915 = .ok (.iload 4, 2) := by decide +kernel
theorem dL_law_917 : decode cL_law 917 = .ok (.iconst 1, 1) := by decide +kernel
theorem dL_law_918 : decode cL_law 918 = .ok (.iadd, 1) := by decide +kernel
theorem dL_law_919 : decode cL_law 919 = .ok (.iaload, 1) := by decide +kernel
theorem dL_law_920 : decode cL_law 920 = .ok (.invokevirtual 224, 3) := by decide +kernel
theorem dL_law_923 : decode cL_law 923 = .ok (.istore 6, 2) := by decide +kernel
theorem dL_law_925 : decode cL_law 925 = .ok (.aload_n 2, 1) := by decide +kernel
theorem dL_law_926 : decode cL_law 926 = .ok (.invokevirtual 190, 3) := by decide +kernel
theorem dL_law_929 : decode cL_law 929 = .ok (.iload 5, 2) := by decide +kernel
theorem dL_law_931 : decode cL_law 931 = .ok (.if_icmp .eq 5, 3) := by decide +kernel
theorem dL_law_934 : decode cL_law 934 = .ok (.iconst 0, 1) := by decide +kernel
theorem dL_law_935 : decode cL_law 935 = .ok (.ireturn, 1) := by decide +kernel
theorem dL_law_936 : decode cL_law 936 = .ok (.iload 5, 2) := by decide +kernel
theorem dL_law_938 : decode cL_law 938 = .ok (.ifCond .ne 15, 3) := by decide +kernel
theorem dL_law_941 : decode cL_law 941 = .ok (.aload_n 3, 1) := by decide +kernel
theorem dL_law_942 : decode cL_law 942 = .ok (.iconst 0, 1) := by decide +kernel
theorem dL_law_943 : decode cL_law 943 = .ok (.laload, 1) := by decide +kernel
theorem dL_law_944 : decode cL_law 944 = .ok (.iload 6, 2) := by decide +kernel
theorem dL_law_946 : decode cL_law 946 = .ok (.i2l, 1) := by decide +kernel
theorem dL_law_947 : decode cL_law 947 = .ok (.lcmp, 1) := by decide +kernel
theorem dL_law_948 : decode cL_law 948 = .ok (.ifCond .eq 5, 3) := by decide +kernel
theorem dL_law_951 : decode cL_law 951 = .ok (.iconst 0, 1) := by decide +kernel
theorem dL_law_952 : decode cL_law 952 = .ok (.ireturn, 1) := by decide +kernel
theorem dL_law_953 : decode cL_law 953 = .ok (.goto 2603, 3) := by decide +kernel
theorem dL_law_956 : decode cL_law 956 = .ok (.aload_n 1, 1) := by decide +kernel
theorem dL_law_957 : decode cL_law 957 = .ok (.aload_n 3, 1) := by decide +kernel
theorem dL_law_958 : decode cL_law 958 = .ok (.invokestatic 225, 3) := by decide +kernel
theorem dL_law_961 : decode cL_law 961 = .ok (.istore 5, 2) := by decide +kernel
theorem dL_law_963 : decode cL_law 963 = .ok (.aload_n 2, 1) := by decide +kernel
theorem dL_law_964 : decode cL_law 964 = .ok (.invokevirtual 227, 3) := by decide +kernel
theorem dL_law_967 : decode cL_law 967 = .ok (.istore 6, 2) := by decide +kernel
theorem dL_law_969 : decode cL_law 969 = .ok (.aload_n 2, 1) := by decide +kernel
theorem dL_law_970 : decode cL_law 970 = .ok (.invokevirtual 190, 3) := by decide +kernel
theorem dL_law_973 : decode cL_law 973 = .ok (.iload 5, 2) := by decide +kernel
theorem dL_law_975 : decode cL_law 975 = .ok (.if_icmp .eq 5, 3) := by decide +kernel
theorem dL_law_978 : decode cL_law 978 = .ok (.iconst 0, 1) := by decide +kernel
theorem dL_law_979 : decode cL_law 979 = .ok (.ireturn, 1) := by decide +kernel
theorem dL_law_980 : decode cL_law 980 = .ok (.iload 5, 2) := by decide +kernel
theorem dL_law_982 : decode cL_law 982 = .ok (.ifCond .ne 15, 3) := by decide +kernel
theorem dL_law_985 : decode cL_law 985 = .ok (.aload_n 3, 1) := by decide +kernel
theorem dL_law_986 : decode cL_law 986 = .ok (.iconst 0, 1) := by decide +kernel
theorem dL_law_987 : decode cL_law 987 = .ok (.laload, 1) := by decide +kernel
theorem dL_law_988 : decode cL_law 988 = .ok (.iload 6, 2) := by decide +kernel
theorem dL_law_990 : decode cL_law 990 = .ok (.i2l, 1) := by decide +kernel
theorem dL_law_991 : decode cL_law 991 = .ok (.lcmp, 1) := by decide +kernel
theorem dL_law_992 : decode cL_law 992 = .ok (.ifCond .eq 5, 3) := by decide +kernel
theorem dL_law_995 : decode cL_law 995 = .ok (.iconst 0, 1) := by decide +kernel
theorem dL_law_996 : decode cL_law 996 = .ok (.ireturn, 1) := by decide +kernel
theorem dL_law_997 : decode cL_law 997 = .ok (.goto 2559, 3) := by decide +kernel
theorem dL_law_1000 : decode cL_law 1000 = .ok (.aload_n 1, 1) := by decide +kernel
theorem dL_law_1001 : decode cL_law 1001 = .ok (.aload_n 0, 1) := by decide +kernel
theorem dL_law_1002 : decode cL_law 1002 = .ok (.iload 4, 2) := by decide +kernel
theorem dL_law_1004 : decode cL_law 1004 = .ok (.iconst 1, 1) := by decide +kernel
theorem dL_law_1005 : decode cL_law 1005 = .ok (.iadd, 1) := by decide +kernel
theorem dL_law_1006 : decode cL_law 1006 = .ok (.iaload, 1) := by decide +kernel
theorem dL_law_1007 : decode cL_law 1007 = .ok (.aload_n 0, 1) := by decide +kernel
theorem dL_law_1008 : decode cL_law 1008 = .ok (.iload 4, 2) := by decide +kernel
theorem dL_law_1010 : decode cL_law 1010 = .ok (.iconst 2, 1) := by decide +kernel
theorem dL_law_1011 : decode cL_law 1011 = .ok (.iadd, 1) := by decide +kernel
theorem dL_law_1012 : decode cL_law 1012 = .ok (.iaload, 1) := by decide +kernel
theorem dL_law_1013 : decode cL_law 1013 = .ok (.aload_n 3, 1) := by decide +kernel
theorem dL_law_1014 : decode cL_law 1014 = .ok (.invokestatic 228, 3) := by decide +kernel
theorem dL_law_1017 : decode cL_law 1017 = .ok (.istore 5, 2) := by decide +kernel
theorem dL_law_1019 : decode cL_law 1019 = .ok (.aload_n 2, 1) := by decide +kernel
theorem dL_law_1020 : decode cL_law 1020 = .ok (.aload_n 0, 1) := by decide +kernel
theorem dL_law_1021 : decode cL_law 1021 = .ok (.iload 4, 2) := by decide +kernel
theorem dL_law_1023 : decode cL_law 1023 = .ok (.iconst 1, 1) := by decide +kernel
theorem dL_law_1024 : decode cL_law 1024 = .ok (.iadd, 1) := by decide +kernel
theorem dL_law_1025 : decode cL_law 1025 = .ok (.iaload, 1) := by decide +kernel
theorem dL_law_1026 : decode cL_law 1026 = .ok (.aload_n 0, 1) := by decide +kernel
theorem dL_law_1027 : decode cL_law 1027 = .ok (.iload 4, 2) := by decide +kernel
theorem dL_law_1029 : decode cL_law 1029 = .ok (.iconst 2, 1) := by decide +kernel
theorem dL_law_1030 : decode cL_law 1030 = .ok (.iadd, 1) := by decide +kernel
theorem dL_law_1031 : decode cL_law 1031 = .ok (.iaload, 1) := by decide +kernel
theorem dL_law_1032 : decode cL_law 1032 = .ok (.invokevirtual 230, 3) := by decide +kernel
theorem dL_law_1035 : decode cL_law 1035 = .ok (.istore 6, 2) := by decide +kernel
theorem dL_law_1037 : decode cL_law 1037 = .ok (.aload_n 2, 1) := by decide +kernel
theorem dL_law_1038 : decode cL_law 1038 = .ok (.invokevirtual 190, 3) := by decide +kernel
theorem dL_law_1041 : decode cL_law 1041 = .ok (.iload 5, 2) := by decide +kernel
theorem dL_law_1043 : decode cL_law 1043 = .ok (.if_icmp .eq 5, 3) := by decide +kernel
theorem dL_law_1046 : decode cL_law 1046 = .ok (.iconst 0, 1) := by decide +kernel
theorem dL_law_1047 : decode cL_law 1047 = .ok (.ireturn, 1) := by decide +kernel
theorem dL_law_1048 : decode cL_law 1048 = .ok (.iload 5, 2) := by decide +kernel
theorem dL_law_1050 : decode cL_law 1050 = .ok (.ifCond .ne 15, 3) := by decide +kernel
theorem dL_law_1053 : decode cL_law 1053 = .ok (.aload_n 3, 1) := by decide +kernel
theorem dL_law_1054 : decode cL_law 1054 = .ok (.iconst 0, 1) := by decide +kernel
theorem dL_law_1055 : decode cL_law 1055 = .ok (.laload, 1) := by decide +kernel
theorem dL_law_1056 : decode cL_law 1056 = .ok (.iload 6, 2) := by decide +kernel
theorem dL_law_1058 : decode cL_law 1058 = .ok (.i2l, 1) := by decide +kernel
theorem dL_law_1059 : decode cL_law 1059 = .ok (.lcmp, 1) := by decide +kernel
theorem dL_law_1060 : decode cL_law 1060 = .ok (.ifCond .eq 5, 3) := by decide +kernel
theorem dL_law_1063 : decode cL_law 1063 = .ok (.iconst 0, 1) := by decide +kernel
theorem dL_law_1064 : decode cL_law 1064 = .ok (.ireturn, 1) := by decide +kernel
theorem dL_law_1065 : decode cL_law 1065 = .ok (.goto 2491, 3) := by decide +kernel
theorem dL_law_1068 : decode cL_law 1068 = .ok (.aload_n 1, 1) := by decide +kernel
theorem dL_law_1069 : decode cL_law 1069 = .ok (.aload_n 0, 1) := by decide +kernel
theorem dL_law_1070 : decode cL_law 1070 = .ok (.iload 4, 2) := by decide +kernel
theorem dL_law_1072 : decode cL_law 1072 = .ok (.iconst 1, 1) := by decide +kernel
theorem dL_law_1073 : decode cL_law 1073 = .ok (.iadd, 1) := by decide +kernel
theorem dL_law_1074 : decode cL_law 1074 = .ok (.iaload, 1) := by decide +kernel
theorem dL_law_1075 : decode cL_law 1075 = .ok (.aload_n 0, 1) := by decide +kernel
theorem dL_law_1076 : decode cL_law 1076 = .ok (.iload 4, 2) := by decide +kernel
theorem dL_law_1078 : decode cL_law 1078 = .ok (.iconst 2, 1) := by decide +kernel
theorem dL_law_1079 : decode cL_law 1079 = .ok (.iadd, 1) := by decide +kernel
theorem dL_law_1080 : decode cL_law 1080 = .ok (.iaload, 1) := by decide +kernel
theorem dL_law_1081 : decode cL_law 1081 = .ok (.aload_n 3, 1) := by decide +kernel
theorem dL_law_1082 : decode cL_law 1082 = .ok (.invokestatic 231, 3) := by decide +kernel
theorem dL_law_1085 : decode cL_law 1085 = .ok (.istore 5, 2) := by decide +kernel
theorem dL_law_1087 : decode cL_law 1087 = .ok (.aload_n 2, 1) := by decide +kernel
theorem dL_law_1088 : decode cL_law 1088 = .ok (.aload_n 0, 1) := by decide +kernel
theorem dL_law_1089 : decode cL_law 1089 = .ok (.iload 4, 2) := by decide +kernel
theorem dL_law_1091 : decode cL_law 1091 = .ok (.iconst 1, 1) := by decide +kernel
theorem dL_law_1092 : decode cL_law 1092 = .ok (.iadd, 1) := by decide +kernel
theorem dL_law_1093 : decode cL_law 1093 = .ok (.iaload, 1) := by decide +kernel
theorem dL_law_1094 : decode cL_law 1094 = .ok (.aload_n 0, 1) := by decide +kernel
theorem dL_law_1095 : decode cL_law 1095 = .ok (.iload 4, 2) := by decide +kernel
theorem dL_law_1097 : decode cL_law 1097 = .ok (.iconst 2, 1) := by decide +kernel
theorem dL_law_1098 : decode cL_law 1098 = .ok (.iadd, 1) := by decide +kernel
theorem dL_law_1099 : decode cL_law 1099 = .ok (.iaload, 1) := by decide +kernel
theorem dL_law_1100 : decode cL_law 1100 = .ok (.invokevirtual 233, 3) := by decide +kernel
theorem dL_law_1103 : decode cL_law 1103 = .ok (.istore 6, 2) := by decide +kernel
theorem dL_law_1105 : decode cL_law 1105 = .ok (.aload_n 2, 1) := by decide +kernel
theorem dL_law_1106 : decode cL_law 1106 = .ok (.invokevirtual 190, 3) := by decide +kernel
theorem dL_law_1109 : decode cL_law 1109 = .ok (.iload 5, 2) := by decide +kernel
theorem dL_law_1111 : decode cL_law 1111 = .ok (.if_icmp .eq 5, 3) := by decide +kernel
theorem dL_law_1114 : decode cL_law 1114 = .ok (.iconst 0, 1) := by decide +kernel
theorem dL_law_1115 : decode cL_law 1115 = .ok (.ireturn, 1) := by decide +kernel
theorem dL_law_1116 : decode cL_law 1116 = .ok (.iload 5, 2) := by decide +kernel
theorem dL_law_1118 : decode cL_law 1118 = .ok (.ifCond .ne 15, 3) := by decide +kernel
theorem dL_law_1121 : decode cL_law 1121 = .ok (.aload_n 3, 1) := by decide +kernel
theorem dL_law_1122 : decode cL_law 1122 = .ok (.iconst 0, 1) := by decide +kernel
theorem dL_law_1123 : decode cL_law 1123 = .ok (.laload, 1) := by decide +kernel
theorem dL_law_1124 : decode cL_law 1124 = .ok (.iload 6, 2) := by decide +kernel
theorem dL_law_1126 : decode cL_law 1126 = .ok (.i2l, 1) := by decide +kernel
theorem dL_law_1127 : decode cL_law 1127 = .ok (.lcmp, 1) := by decide +kernel
theorem dL_law_1128 : decode cL_law 1128 = .ok (.ifCond .eq 5, 3) := by decide +kernel
theorem dL_law_1131 : decode cL_law 1131 = .ok (.iconst 0, 1) := by decide +kernel
theorem dL_law_1132 : decode cL_law 1132 = .ok (.ireturn, 1) := by decide +kernel
theorem dL_law_1133 : decode cL_law 1133 = .ok (.goto 2423, 3) := by decide +kernel
theorem dL_law_1136 : decode cL_law 1136 = .ok (.aload_n 1, 1) := by decide +kernel
theorem dL_law_1137 : decode cL_law 1137 = .ok (.invokevirtual 234, 3) := by decide +kernel
theorem dL_law_1140 : decode cL_law 1140 = .ok (.aload_n 2, 1) := by decide +kernel
theorem dL_law_1141 : decode cL_law 1141 = .ok (.invokevirtual 238, 3) := by decide +kernel
theorem dL_law_1144 : decode cL_law 1144 = .ok (.if_icmp .eq 2412, 3) := by decide +kernel
theorem dL_law_1147 : decode cL_law 1147 = .ok (.iconst 0, 1) := by decide +kernel
theorem dL_law_1148 : decode cL_law 1148 = .ok (.ireturn, 1) := by decide +kernel
theorem dL_law_1149 : decode cL_law 1149 = .ok (.aload_n 1, 1) := by decide +kernel
theorem dL_law_1150 : decode cL_law 1150 = .ok (.aload_n 0, 1) := by decide +kernel
theorem dL_law_1151 : decode cL_law 1151 = .ok (.iload 4, 2) := by decide +kernel
theorem dL_law_1153 : decode cL_law 1153 = .ok (.iconst 1, 1) := by decide +kernel
theorem dL_law_1154 : decode cL_law 1154 = .ok (.iadd, 1) := by decide +kernel
theorem dL_law_1155 : decode cL_law 1155 = .ok (.iaload, 1) := by decide +kernel
theorem dL_law_1156 : decode cL_law 1156 = .ok (.aload_n 3, 1) := by decide +kernel
theorem dL_law_1157 : decode cL_law 1157 = .ok (.invokestatic 239, 3) := by decide +kernel
theorem dL_law_1160 : decode cL_law 1160 = .ok (.istore 5, 2) := by decide +kernel
theorem dL_law_1162 : decode cL_law 1162 = .ok (.aload_n 2, 1) := by decide +kernel
theorem dL_law_1163 : decode cL_law 1163 = .ok (.aload_n 0, 1) := by decide +kernel
theorem dL_law_1164 : decode cL_law 1164 = .ok (.iload 4, 2) := by decide +kernel
theorem dL_law_1166 : decode cL_law 1166 = .ok (.iconst 1, 1) := by decide +kernel
theorem dL_law_1167 : decode cL_law 1167 = .ok (.iadd, 1) := by decide +kernel
theorem dL_law_1168 : decode cL_law 1168 = .ok (.iaload, 1) := by decide +kernel
theorem dL_law_1169 : decode cL_law 1169 = .ok (.invokevirtual 241, 3) := by decide +kernel
theorem dL_law_1172 : decode cL_law 1172 = .ok (.istore 6, 2) := by decide +kernel
theorem dL_law_1174 : decode cL_law 1174 = .ok (.aload_n 2, 1) := by decide +kernel
theorem dL_law_1175 : decode cL_law 1175 = .ok (.invokevirtual 190, 3) := by decide +kernel
theorem dL_law_1178 : decode cL_law 1178 = .ok (.iload 5, 2) := by decide +kernel
theorem dL_law_1180 : decode cL_law 1180 = .ok (.if_icmp .eq 5, 3) := by decide +kernel
theorem dL_law_1183 : decode cL_law 1183 = .ok (.iconst 0, 1) := by decide +kernel
theorem dL_law_1184 : decode cL_law 1184 = .ok (.ireturn, 1) := by decide +kernel
theorem dL_law_1185 : decode cL_law 1185 = .ok (.iload 5, 2) := by decide +kernel
theorem dL_law_1187 : decode cL_law 1187 = .ok (.ifCond .ne 15, 3) := by decide +kernel
theorem dL_law_1190 : decode cL_law 1190 = .ok (.aload_n 3, 1) := by decide +kernel
theorem dL_law_1191 : decode cL_law 1191 = .ok (.iconst 0, 1) := by decide +kernel
theorem dL_law_1192 : decode cL_law 1192 = .ok (.laload, 1) := by decide +kernel
theorem dL_law_1193 : decode cL_law 1193 = .ok (.iload 6, 2) := by decide +kernel
theorem dL_law_1195 : decode cL_law 1195 = .ok (.i2l, 1) := by decide +kernel
theorem dL_law_1196 : decode cL_law 1196 = .ok (.lcmp, 1) := by decide +kernel
theorem dL_law_1197 : decode cL_law 1197 = .ok (.ifCond .eq 5, 3) := by decide +kernel
theorem dL_law_1200 : decode cL_law 1200 = .ok (.iconst 0, 1) := by decide +kernel
theorem dL_law_1201 : decode cL_law 1201 = .ok (.ireturn, 1) := by decide +kernel
theorem dL_law_1202 : decode cL_law 1202 = .ok (.goto 2354, 3) := by decide +kernel
theorem dL_law_1205 : decode cL_law 1205 = .ok (.aload_n 1, 1) := by decide +kernel
theorem dL_law_1206 : decode cL_law 1206 = .ok (.invokevirtual 242, 3) := by decide +kernel
theorem dL_law_1209 : decode cL_law 1209 = .ok (.aload_n 2, 1) := by decide +kernel
theorem dL_law_1210 : decode cL_law 1210 = .ok (.invokevirtual 245, 3) := by decide +kernel
theorem dL_law_1213 : decode cL_law 1213 = .ok (.if_icmp .eq 2343, 3) := by decide +kernel
theorem dL_law_1216 : decode cL_law 1216 = .ok (.iconst 0, 1) := by decide +kernel
theorem dL_law_1217 : decode cL_law 1217 = .ok (.ireturn, 1) := by decide +kernel
theorem dL_law_1218 : decode cL_law 1218 = .ok (.aload_n 1, 1) := by decide +kernel
theorem dL_law_1219 : decode cL_law 1219 = .ok (.invokevirtual 246, 3) := by decide +kernel
theorem dL_law_1222 : decode cL_law 1222 = .ok (.aload_n 2, 1) := by decide +kernel
theorem dL_law_1223 : decode cL_law 1223 = .ok (.invokevirtual 249, 3) := by decide +kernel
theorem dL_law_1226 : decode cL_law 1226 = .ok (.if_icmp .eq 2330, 3) := by decide +kernel
theorem dL_law_1229 : decode cL_law 1229 = .ok (.iconst 0, 1) := by decide +kernel
theorem dL_law_1230 : decode cL_law 1230 = .ok (.ireturn, 1) := by decide +kernel
theorem dL_law_1231 : decode cL_law 1231 = .ok (.aload_n 1, 1) := by decide +kernel
theorem dL_law_1232 : decode cL_law 1232 = .ok (.aload_n 0, 1) := by decide +kernel
theorem dL_law_1233 : decode cL_law 1233 = .ok (.iload 4, 2) := by decide +kernel
theorem dL_law_1235 : decode cL_law 1235 = .ok (.iconst 1, 1) := by decide +kernel
theorem dL_law_1236 : decode cL_law 1236 = .ok (.iadd, 1) := by decide +kernel
theorem dL_law_1237 : decode cL_law 1237 = .ok (.iaload, 1) := by decide +kernel
theorem dL_law_1238 : decode cL_law 1238 = .ok (.invokestatic 250, 3) := by decide +kernel
theorem dL_law_1241 : decode cL_law 1241 = .ok (.istore 5, 2) := by decide +kernel
theorem dL_law_1243 : decode cL_law 1243 = .ok (.aload_n 2, 1) := by decide +kernel
theorem dL_law_1244 : decode cL_law 1244 = .ok (.aload_n 0, 1) := by decide +kernel
theorem dL_law_1245 : decode cL_law 1245 = .ok (.iload 4, 2) := by decide +kernel
theorem dL_law_1247 : decode cL_law 1247 = .ok (.iconst 1, 1) := by decide +kernel
theorem dL_law_1248 : decode cL_law 1248 = .ok (.iadd, 1) := by decide +kernel
theorem dL_law_1249 : decode cL_law 1249 = .ok (.iaload, 1) := by decide +kernel
theorem dL_law_1250 : decode cL_law 1250 = .ok (.invokevirtual 253, 3) := by decide +kernel
theorem dL_law_1253 : decode cL_law 1253 = .ok (.aload_n 2, 1) := by decide +kernel
theorem dL_law_1254 : decode cL_law 1254 = .ok (.invokevirtual 190, 3) := by decide +kernel
theorem dL_law_1257 : decode cL_law 1257 = .ok (.iload 5, 2) := by decide +kernel
theorem dL_law_1259 : decode cL_law 1259 = .ok (.if_icmp .eq 5, 3) := by decide +kernel
theorem dL_law_1262 : decode cL_law 1262 = .ok (.iconst 0, 1) := by decide +kernel
theorem dL_law_1263 : decode cL_law 1263 = .ok (.ireturn, 1) := by decide +kernel
theorem dL_law_1264 : decode cL_law 1264 = .ok (.goto 2292, 3) := by decide +kernel
theorem dL_law_1267 : decode cL_law 1267 = .ok (.aload_n 1, 1) := by decide +kernel
theorem dL_law_1268 : decode cL_law 1268 = .ok (.aload_n 0, 1) := by decide +kernel
theorem dL_law_1269 : decode cL_law 1269 = .ok (.iload 4, 2) := by decide +kernel
theorem dL_law_1271 : decode cL_law 1271 = .ok (.iconst 1, 1) := by decide +kernel
theorem dL_law_1272 : decode cL_law 1272 = .ok (.iadd, 1) := by decide +kernel
theorem dL_law_1273 : decode cL_law 1273 = .ok (.iaload, 1) := by decide +kernel
theorem dL_law_1274 : decode cL_law 1274 = .ok (.invokestatic 254, 3) := by decide +kernel
theorem dL_law_1277 : decode cL_law 1277 = .ok (.istore 5, 2) := by decide +kernel
theorem dL_law_1279 : decode cL_law 1279 = .ok (.aload_n 2, 1) := by decide +kernel
theorem dL_law_1280 : decode cL_law 1280 = .ok (.aload_n 0, 1) := by decide +kernel
theorem dL_law_1281 : decode cL_law 1281 = .ok (.iload 4, 2) := by decide +kernel
theorem dL_law_1283 : decode cL_law 1283 = .ok (.iconst 1, 1) := by decide +kernel
theorem dL_law_1284 : decode cL_law 1284 = .ok (.iadd, 1) := by decide +kernel
theorem dL_law_1285 : decode cL_law 1285 = .ok (.iaload, 1) := by decide +kernel
theorem dL_law_1286 : decode cL_law 1286 = .ok (.invokevirtual 256, 3) := by decide +kernel
theorem dL_law_1289 : decode cL_law 1289 = .ok (.aload_n 2, 1) := by decide +kernel
theorem dL_law_1290 : decode cL_law 1290 = .ok (.invokevirtual 190, 3) := by decide +kernel
theorem dL_law_1293 : decode cL_law 1293 = .ok (.iload 5, 2) := by decide +kernel
theorem dL_law_1295 : decode cL_law 1295 = .ok (.if_icmp .eq 5, 3) := by decide +kernel
theorem dL_law_1298 : decode cL_law 1298 = .ok (.iconst 0, 1) := by decide +kernel
theorem dL_law_1299 : decode cL_law 1299 = .ok (.ireturn, 1) := by decide +kernel
theorem dL_law_1300 : decode cL_law 1300 = .ok (.goto 2256, 3) := by decide +kernel
theorem dL_law_1303 : decode cL_law 1303 = .ok (.aload_n 1, 1) := by decide +kernel
theorem dL_law_1304 : decode cL_law 1304 = .ok (.invokestatic 257, 3) := by decide +kernel
theorem dL_law_1307 : decode cL_law 1307 = .ok (.istore 5, 2) := by decide +kernel
theorem dL_law_1309 : decode cL_law 1309 = .ok (.aload_n 2, 1) := by decide +kernel
theorem dL_law_1310 : decode cL_law 1310 = .ok (.invokevirtual 260, 3) := by decide +kernel
theorem dL_law_1313 : decode cL_law 1313 = .ok (.aload_n 2, 1) := by decide +kernel
theorem dL_law_1314 : decode cL_law 1314 = .ok (.invokevirtual 190, 3) := by decide +kernel
theorem dL_law_1317 : decode cL_law 1317 = .ok (.iload 5, 2) := by decide +kernel
theorem dL_law_1319 : decode cL_law 1319 = .ok (.if_icmp .eq 5, 3) := by decide +kernel
theorem dL_law_1322 : decode cL_law 1322 = .ok (.iconst 0, 1) := by decide +kernel
theorem dL_law_1323 : decode cL_law 1323 = .ok (.ireturn, 1) := by decide +kernel
theorem dL_law_1324 : decode cL_law 1324 = .ok (.goto 2232, 3) := by decide +kernel
theorem dL_law_1327 : decode cL_law 1327 = .ok (.aload_n 1, 1) := by decide +kernel
theorem dL_law_1328 : decode cL_law 1328 = .ok (.invokevirtual 261, 3) := by decide +kernel
theorem dL_law_1331 : decode cL_law 1331 = .ok (.aload_n 2, 1) := by decide +kernel
theorem dL_law_1332 : decode cL_law 1332 = .ok (.invokevirtual 264, 3) := by decide +kernel
theorem dL_law_1335 : decode cL_law 1335 = .ok (.if_icmp .eq 2221, 3) := by decide +kernel
theorem dL_law_1338 : decode cL_law 1338 = .ok (.iconst 0, 1) := by decide +kernel
theorem dL_law_1339 : decode cL_law 1339 = .ok (.ireturn, 1) := by decide +kernel
theorem dL_law_1340 : decode cL_law 1340 = .ok (.aload_n 1, 1) := by decide +kernel
theorem dL_law_1341 : decode cL_law 1341 = .ok (.invokevirtual 265, 3) := by decide +kernel
theorem dL_law_1344 : decode cL_law 1344 = .ok (.aload_n 2, 1) := by decide +kernel
theorem dL_law_1345 : decode cL_law 1345 = .ok (.invokevirtual 268, 3) := by decide +kernel
theorem dL_law_1348 : decode cL_law 1348 = .ok (.if_icmp .eq 2208, 3) := by decide +kernel
theorem dL_law_1351 : decode cL_law 1351 = .ok (.iconst 0, 1) := by decide +kernel
theorem dL_law_1352 : decode cL_law 1352 = .ok (.ireturn, 1) := by decide +kernel
theorem dL_law_1353 : decode cL_law 1353 = .ok (.aload_n 1, 1) := by decide +kernel
theorem dL_law_1354 : decode cL_law 1354 = .ok (.aload_n 0, 1) := by decide +kernel
theorem dL_law_1355 : decode cL_law 1355 = .ok (.iload 4, 2) := by decide +kernel
theorem dL_law_1357 : decode cL_law 1357 = .ok (.iconst 1, 1) := by decide +kernel
theorem dL_law_1358 : decode cL_law 1358 = .ok (.iadd, 1) := by decide +kernel
theorem dL_law_1359 : decode cL_law 1359 = .ok (.iaload, 1) := by decide +kernel
theorem dL_law_1360 : decode cL_law 1360 = .ok (.aload_n 3, 1) := by decide +kernel
theorem dL_law_1361 : decode cL_law 1361 = .ok (.invokestatic 269, 3) := by decide +kernel
theorem dL_law_1364 : decode cL_law 1364 = .ok (.istore 5, 2) := by decide +kernel
theorem dL_law_1366 : decode cL_law 1366 = .ok (.aload_n 2, 1) := by decide +kernel
theorem dL_law_1367 : decode cL_law 1367 = .ok (.aload_n 0, 1) := by decide +kernel
theorem dL_law_1368 : decode cL_law 1368 = .ok (.iload 4, 2) := by decide +kernel
theorem dL_law_1370 : decode cL_law 1370 = .ok (.iconst 1, 1) := by decide +kernel
theorem dL_law_1371 : decode cL_law 1371 = .ok (.iadd, 1) := by decide +kernel
theorem dL_law_1372 : decode cL_law 1372 = .ok (.iaload, 1) := by decide +kernel
theorem dL_law_1373 : decode cL_law 1373 = .ok (.invokevirtual 271, 3) := by decide +kernel
theorem dL_law_1376 : decode cL_law 1376 = .ok (.istore 6, 2) := by decide +kernel
theorem dL_law_1378 : decode cL_law 1378 = .ok (.aload_n 2, 1) := by decide +kernel
theorem dL_law_1379 : decode cL_law 1379 = .ok (.invokevirtual 190, 3) := by decide +kernel
theorem dL_law_1382 : decode cL_law 1382 = .ok (.iload 5, 2) := by decide +kernel
theorem dL_law_1384 : decode cL_law 1384 = .ok (.if_icmp .eq 5, 3) := by decide +kernel
theorem dL_law_1387 : decode cL_law 1387 = .ok (.iconst 0, 1) := by decide +kernel
theorem dL_law_1388 : decode cL_law 1388 = .ok (.ireturn, 1) := by decide +kernel
theorem dL_law_1389 : decode cL_law 1389 = .ok (.iload 5, 2) := by decide +kernel
theorem dL_law_1391 : decode cL_law 1391 = .ok (.ifCond .ne 15, 3) := by decide +kernel
theorem dL_law_1394 : decode cL_law 1394 = .ok (.aload_n 3, 1) := by decide +kernel
theorem dL_law_1395 : decode cL_law 1395 = .ok (.iconst 0, 1) := by decide +kernel
theorem dL_law_1396 : decode cL_law 1396 = .ok (.laload, 1) := by decide +kernel
theorem dL_law_1397 : decode cL_law 1397 = .ok (.iload 6, 2) := by decide +kernel
theorem dL_law_1399 : decode cL_law 1399 = .ok (.i2l, 1) := by decide +kernel
theorem dL_law_1400 : decode cL_law 1400 = .ok (.lcmp, 1) := by decide +kernel
theorem dL_law_1401 : decode cL_law 1401 = .ok (.ifCond .eq 5, 3) := by decide +kernel
theorem dL_law_1404 : decode cL_law 1404 = .ok (.iconst 0, 1) := by decide +kernel
theorem dL_law_1405 : decode cL_law 1405 = .ok (.ireturn, 1) := by decide +kernel
theorem dL_law_1406 : decode cL_law 1406 = .ok (.goto 2150, 3) := by decide +kernel
theorem dL_law_1409 : decode cL_law 1409 = .ok (.aload_n 1, 1) := by decide +kernel
theorem dL_law_1410 : decode cL_law 1410 = .ok (.aload_n 0, 1) := by decide +kernel
theorem dL_law_1411 : decode cL_law 1411 = .ok (.iload 4, 2) := by decide +kernel
theorem dL_law_1413 : decode cL_law 1413 = .ok (.iconst 1, 1) := by decide +kernel
theorem dL_law_1414 : decode cL_law 1414 = .ok (.iadd, 1) := by decide +kernel
theorem dL_law_1415 : decode cL_law 1415 = .ok (.iaload, 1) := by decide +kernel
theorem dL_law_1416 : decode cL_law 1416 = .ok (.aload_n 3, 1) := by decide +kernel
theorem dL_law_1417 : decode cL_law 1417 = .ok (.invokestatic 272, 3) := by decide +kernel
theorem dL_law_1420 : decode cL_law 1420 = .ok (.istore 5, 2) := by decide +kernel
theorem dL_law_1422 : decode cL_law 1422 = .ok (.aload_n 2, 1) := by decide +kernel
theorem dL_law_1423 : decode cL_law 1423 = .ok (.aload_n 0, 1) := by decide +kernel
theorem dL_law_1424 : decode cL_law 1424 = .ok (.iload 4, 2) := by decide +kernel
theorem dL_law_1426 : decode cL_law 1426 = .ok (.iconst 1, 1) := by decide +kernel
theorem dL_law_1427 : decode cL_law 1427 = .ok (.iadd, 1) := by decide +kernel
theorem dL_law_1428 : decode cL_law 1428 = .ok (.iaload, 1) := by decide +kernel
theorem dL_law_1429 : decode cL_law 1429 = .ok (.invokevirtual 274, 3) := by decide +kernel
theorem dL_law_1432 : decode cL_law 1432 = .ok (.istore 6, 2) := by decide +kernel
theorem dL_law_1434 : decode cL_law 1434 = .ok (.aload_n 2, 1) := by decide +kernel
theorem dL_law_1435 : decode cL_law 1435 = .ok (.invokevirtual 190, 3) := by decide +kernel
theorem dL_law_1438 : decode cL_law 1438 = .ok (.iload 5, 2) := by decide +kernel
theorem dL_law_1440 : decode cL_law 1440 = .ok (.if_icmp .eq 5, 3) := by decide +kernel
theorem dL_law_1443 : decode cL_law 1443 = .ok (.iconst 0, 1) := by decide +kernel
theorem dL_law_1444 : decode cL_law 1444 = .ok (.ireturn, 1) := by decide +kernel
theorem dL_law_1445 : decode cL_law 1445 = .ok (.iload 5, 2) := by decide +kernel
theorem dL_law_1447 : decode cL_law 1447 = .ok (.ifCond .ne 15, 3) := by decide +kernel
theorem dL_law_1450 : decode cL_law 1450 = .ok (.aload_n 3, 1) := by decide +kernel
theorem dL_law_1451 : decode cL_law 1451 = .ok (.iconst 0, 1) := by decide +kernel
theorem dL_law_1452 : decode cL_law 1452 = .ok (.laload, 1) := by decide +kernel
theorem dL_law_1453 : decode cL_law 1453 = .ok (.iload 6, 2) := by decide +kernel
theorem dL_law_1455 : decode cL_law 1455 = .ok (.i2l, 1) := by decide +kernel
theorem dL_law_1456 : decode cL_law 1456 = .ok (.lcmp, 1) := by decide +kernel
theorem dL_law_1457 : decode cL_law 1457 = .ok (.ifCond .eq 5, 3) := by decide +kernel
theorem dL_law_1460 : decode cL_law 1460 = .ok (.iconst 0, 1) := by decide +kernel
theorem dL_law_1461 : decode cL_law 1461 = .ok (.ireturn, 1) := by decide +kernel
theorem dL_law_1462 : decode cL_law 1462 = .ok (.goto 2094, 3) := by decide +kernel
theorem dL_law_1465 : decode cL_law 1465 = .ok (.aload_n 1, 1) := by decide +kernel
theorem dL_law_1466 : decode cL_law 1466 = .ok (.aload_n 0, 1) := by decide +kernel
theorem dL_law_1467 : decode cL_law 1467 = .ok (.iload 4, 2) := by decide +kernel
theorem dL_law_1469 : decode cL_law 1469 = .ok (.iconst 1, 1) := by decide +kernel
theorem dL_law_1470 : decode cL_law 1470 = .ok (.iadd, 1) := by decide +kernel
theorem dL_law_1471 : decode cL_law 1471 = .ok (.iaload, 1) := by decide +kernel
theorem dL_law_1472 : decode cL_law 1472 = .ok (.aload_n 3, 1) := by decide +kernel
theorem dL_law_1473 : decode cL_law 1473 = .ok (.invokestatic 275, 3) := by decide +kernel
theorem dL_law_1476 : decode cL_law 1476 = .ok (.istore 5, 2) := by decide +kernel
theorem dL_law_1478 : decode cL_law 1478 = .ok (.aload_n 2, 1) := by decide +kernel
theorem dL_law_1479 : decode cL_law 1479 = .ok (.aload_n 0, 1) := by decide +kernel
theorem dL_law_1480 : decode cL_law 1480 = .ok (.iload 4, 2) := by decide +kernel
theorem dL_law_1482 : decode cL_law 1482 = .ok (.iconst 1, 1) := by decide +kernel
theorem dL_law_1483 : decode cL_law 1483 = .ok (.iadd, 1) := by decide +kernel
theorem dL_law_1484 : decode cL_law 1484 = .ok (.iaload, 1) := by decide +kernel
theorem dL_law_1485 : decode cL_law 1485 = .ok (.invokevirtual 277, 3) := by decide +kernel
theorem dL_law_1488 : decode cL_law 1488 = .ok (.istore 6, 2) := by decide +kernel
theorem dL_law_1490 : decode cL_law 1490 = .ok (.aload_n 2, 1) := by decide +kernel
theorem dL_law_1491 : decode cL_law 1491 = .ok (.invokevirtual 190, 3) := by decide +kernel
theorem dL_law_1494 : decode cL_law 1494 = .ok (.iload 5, 2) := by decide +kernel
theorem dL_law_1496 : decode cL_law 1496 = .ok (.if_icmp .eq 5, 3) := by decide +kernel
theorem dL_law_1499 : decode cL_law 1499 = .ok (.iconst 0, 1) := by decide +kernel
theorem dL_law_1500 : decode cL_law 1500 = .ok (.ireturn, 1) := by decide +kernel
theorem dL_law_1501 : decode cL_law 1501 = .ok (.iload 5, 2) := by decide +kernel
theorem dL_law_1503 : decode cL_law 1503 = .ok (.ifCond .ne 15, 3) := by decide +kernel
theorem dL_law_1506 : decode cL_law 1506 = .ok (.aload_n 3, 1) := by decide +kernel
theorem dL_law_1507 : decode cL_law 1507 = .ok (.iconst 0, 1) := by decide +kernel
theorem dL_law_1508 : decode cL_law 1508 = .ok (.laload, 1) := by decide +kernel
theorem dL_law_1509 : decode cL_law 1509 = .ok (.iload 6, 2) := by decide +kernel
theorem dL_law_1511 : decode cL_law 1511 = .ok (.i2l, 1) := by decide +kernel
theorem dL_law_1512 : decode cL_law 1512 = .ok (.lcmp, 1) := by decide +kernel
theorem dL_law_1513 : decode cL_law 1513 = .ok (.ifCond .eq 5, 3) := by decide +kernel
theorem dL_law_1516 : decode cL_law 1516 = .ok (.iconst 0, 1) := by decide +kernel
theorem dL_law_1517 : decode cL_law 1517 = .ok (.ireturn, 1) := by decide +kernel
theorem dL_law_1518 : decode cL_law 1518 = .ok (.goto 2038, 3) := by decide +kernel
theorem dL_law_1521 : decode cL_law 1521 = .ok (.aload_n 1, 1) := by decide +kernel
theorem dL_law_1522 : decode cL_law 1522 = .ok (.aload_n 0, 1) := by decide +kernel
theorem dL_law_1523 : decode cL_law 1523 = .ok (.iload 4, 2) := by decide +kernel
theorem dL_law_1525 : decode cL_law 1525 = .ok (.iconst 1, 1) := by decide +kernel
theorem dL_law_1526 : decode cL_law 1526 = .ok (.iadd, 1) := by decide +kernel
theorem dL_law_1527 : decode cL_law 1527 = .ok (.iaload, 1) := by decide +kernel
theorem dL_law_1528 : decode cL_law 1528 = .ok (.aload_n 3, 1) := by decide +kernel
theorem dL_law_1529 : decode cL_law 1529 = .ok (.invokestatic 278, 3) := by decide +kernel
theorem dL_law_1532 : decode cL_law 1532 = .ok (.istore 5, 2) := by decide +kernel
theorem dL_law_1534 : decode cL_law 1534 = .ok (.aload_n 2, 1) := by decide +kernel
theorem dL_law_1535 : decode cL_law 1535 = .ok (.aload_n 0, 1) := by decide +kernel
theorem dL_law_1536 : decode cL_law 1536 = .ok (.iload 4, 2) := by decide +kernel
theorem dL_law_1538 : decode cL_law 1538 = .ok (.iconst 1, 1) := by decide +kernel
theorem dL_law_1539 : decode cL_law 1539 = .ok (.iadd, 1) := by decide +kernel
theorem dL_law_1540 : decode cL_law 1540 = .ok (.iaload, 1) := by decide +kernel
theorem dL_law_1541 : decode cL_law 1541 = .ok (.invokevirtual 280, 3) := by decide +kernel
theorem dL_law_1544 : decode cL_law 1544 = .ok (.istore 6, 2) := by decide +kernel
theorem dL_law_1546 : decode cL_law 1546 = .ok (.aload_n 2, 1) := by decide +kernel
theorem dL_law_1547 : decode cL_law 1547 = .ok (.invokevirtual 190, 3) := by decide +kernel
theorem dL_law_1550 : decode cL_law 1550 = .ok (.iload 5, 2) := by decide +kernel
theorem dL_law_1552 : decode cL_law 1552 = .ok (.if_icmp .eq 5, 3) := by decide +kernel
theorem dL_law_1555 : decode cL_law 1555 = .ok (.iconst 0, 1) := by decide +kernel
theorem dL_law_1556 : decode cL_law 1556 = .ok (.ireturn, 1) := by decide +kernel
theorem dL_law_1557 : decode cL_law 1557 = .ok (.iload 5, 2) := by decide +kernel
theorem dL_law_1559 : decode cL_law 1559 = .ok (.ifCond .ne 22, 3) := by decide +kernel
theorem dL_law_1562 : decode cL_law 1562 = .ok (.aload_n 3, 1) := by decide +kernel
theorem dL_law_1563 : decode cL_law 1563 = .ok (.iconst 0, 1) := by decide +kernel
theorem dL_law_1564 : decode cL_law 1564 = .ok (.laload, 1) := by decide +kernel
theorem dL_law_1565 : decode cL_law 1565 = .ok (.iload 6, 2) := by decide +kernel
theorem dL_law_1567 : decode cL_law 1567 = .ok (.ifCond .eq 7, 3) := by decide +kernel
theorem dL_law_1570 : decode cL_law 1570 = .ok (.lconst 1, 1) := by decide +kernel
theorem dL_law_1571 : decode cL_law 1571 = .ok (.goto 4, 3) := by decide +kernel
theorem dL_law_1574 : decode cL_law 1574 = .ok (.lconst 0, 1) := by decide +kernel
theorem dL_law_1575 : decode cL_law 1575 = .ok (.lcmp, 1) := by decide +kernel
theorem dL_law_1576 : decode cL_law 1576 = .ok (.ifCond .eq 5, 3) := by decide +kernel
theorem dL_law_1579 : decode cL_law 1579 = .ok (.iconst 0, 1) := by decide +kernel
theorem dL_law_1580 : decode cL_law 1580 = .ok (.ireturn, 1) := by decide +kernel
theorem dL_law_1581 : decode cL_law 1581 = .ok (.goto 1975, 3) := by decide +kernel
theorem dL_law_1584 : decode cL_law 1584 = .ok (.aload_n 1, 1) := by decide +kernel
theorem dL_law_1585 : decode cL_law 1585 = .ok (.aload_n 0, 1) := by decide +kernel
theorem dL_law_1586 : decode cL_law 1586 = .ok (.iload 4, 2) := by decide +kernel
theorem dL_law_1588 : decode cL_law 1588 = .ok (.iconst 1, 1) := by decide +kernel
theorem dL_law_1589 : decode cL_law 1589 = .ok (.iadd, 1) := by decide +kernel
theorem dL_law_1590 : decode cL_law 1590 = .ok (.iaload, 1) := by decide +kernel
theorem dL_law_1591 : decode cL_law 1591 = .ok (.aload_n 0, 1) := by decide +kernel
theorem dL_law_1592 : decode cL_law 1592 = .ok (.iload 4, 2) := by decide +kernel
theorem dL_law_1594 : decode cL_law 1594 = .ok (.iconst 2, 1) := by decide +kernel
theorem dL_law_1595 : decode cL_law 1595 = .ok (.iadd, 1) := by decide +kernel
theorem dL_law_1596 : decode cL_law 1596 = .ok (.iaload, 1) := by decide +kernel
theorem dL_law_1597 : decode cL_law 1597 = .ok (.aload_n 3, 1) := by decide +kernel
theorem dL_law_1598 : decode cL_law 1598 = .ok (.invokestatic 281, 3) := by decide +kernel
theorem dL_law_1601 : decode cL_law 1601 = .ok (.istore 5, 2) := by decide +kernel
theorem dL_law_1603 : decode cL_law 1603 = .ok (.aload_n 2, 1) := by decide +kernel
theorem dL_law_1604 : decode cL_law 1604 = .ok (.aload_n 0, 1) := by decide +kernel
theorem dL_law_1605 : decode cL_law 1605 = .ok (.iload 4, 2) := by decide +kernel
theorem dL_law_1607 : decode cL_law 1607 = .ok (.iconst 1, 1) := by decide +kernel
theorem dL_law_1608 : decode cL_law 1608 = .ok (.iadd, 1) := by decide +kernel
theorem dL_law_1609 : decode cL_law 1609 = .ok (.iaload, 1) := by decide +kernel
theorem dL_law_1610 : decode cL_law 1610 = .ok (.aload_n 0, 1) := by decide +kernel
theorem dL_law_1611 : decode cL_law 1611 = .ok (.iload 4, 2) := by decide +kernel
theorem dL_law_1613 : decode cL_law 1613 = .ok (.iconst 2, 1) := by decide +kernel
theorem dL_law_1614 : decode cL_law 1614 = .ok (.iadd, 1) := by decide +kernel
theorem dL_law_1615 : decode cL_law 1615 = .ok (.iaload, 1) := by decide +kernel
theorem dL_law_1616 : decode cL_law 1616 = .ok (.invokevirtual 283, 3) := by decide +kernel
theorem dL_law_1619 : decode cL_law 1619 = .ok (.istore 6, 2) := by decide +kernel
theorem dL_law_1621 : decode cL_law 1621 = .ok (.aload_n 2, 1) := by decide +kernel
theorem dL_law_1622 : decode cL_law 1622 = .ok (.invokevirtual 190, 3) := by decide +kernel
theorem dL_law_1625 : decode cL_law 1625 = .ok (.iload 5, 2) := by decide +kernel
theorem dL_law_1627 : decode cL_law 1627 = .ok (.if_icmp .eq 5, 3) := by decide +kernel
theorem dL_law_1630 : decode cL_law 1630 = .ok (.iconst 0, 1) := by decide +kernel
theorem dL_law_1631 : decode cL_law 1631 = .ok (.ireturn, 1) := by decide +kernel
theorem dL_law_1632 : decode cL_law 1632 = .ok (.iload 5, 2) := by decide +kernel
theorem dL_law_1634 : decode cL_law 1634 = .ok (.ifCond .ne 15, 3) := by decide +kernel
theorem dL_law_1637 : decode cL_law 1637 = .ok (.aload_n 3, 1) := by decide +kernel
theorem dL_law_1638 : decode cL_law 1638 = .ok (.iconst 0, 1) := by decide +kernel
theorem dL_law_1639 : decode cL_law 1639 = .ok (.laload, 1) := by decide +kernel
theorem dL_law_1640 : decode cL_law 1640 = .ok (.iload 6, 2) := by decide +kernel
theorem dL_law_1642 : decode cL_law 1642 = .ok (.i2l, 1) := by decide +kernel
theorem dL_law_1643 : decode cL_law 1643 = .ok (.lcmp, 1) := by decide +kernel
theorem dL_law_1644 : decode cL_law 1644 = .ok (.ifCond .eq 5, 3) := by decide +kernel
theorem dL_law_1647 : decode cL_law 1647 = .ok (.iconst 0, 1) := by decide +kernel
theorem dL_law_1648 : decode cL_law 1648 = .ok (.ireturn, 1) := by decide +kernel
theorem dL_law_1649 : decode cL_law 1649 = .ok (.goto 1907, 3) := by decide +kernel
theorem dL_law_1652 : decode cL_law 1652 = .ok (.aload_n 1, 1) := by decide +kernel
theorem dL_law_1653 : decode cL_law 1653 = .ok (.aload_n 0, 1) := by decide +kernel
theorem dL_law_1654 : decode cL_law 1654 = .ok (.iload 4, 2) := by decide +kernel
theorem dL_law_1656 : decode cL_law 1656 = .ok (.iconst 1, 1) := by decide +kernel
theorem dL_law_1657 : decode cL_law 1657 = .ok (.iadd, 1) := by decide +kernel
theorem dL_law_1658 : decode cL_law 1658 = .ok (.iaload, 1) := by decide +kernel
theorem dL_law_1659 : decode cL_law 1659 = .ok (.aload_n 3, 1) := by decide +kernel
theorem dL_law_1660 : decode cL_law 1660 = .ok (.invokestatic 284, 3) := by decide +kernel
theorem dL_law_1663 : decode cL_law 1663 = .ok (.istore 5, 2) := by decide +kernel
theorem dL_law_1665 : decode cL_law 1665 = .ok (.aload_n 2, 1) := by decide +kernel
theorem dL_law_1666 : decode cL_law 1666 = .ok (.aload_n 0, 1) := by decide +kernel
theorem dL_law_1667 : decode cL_law 1667 = .ok (.iload 4, 2) := by decide +kernel
theorem dL_law_1669 : decode cL_law 1669 = .ok (.iconst 1, 1) := by decide +kernel
theorem dL_law_1670 : decode cL_law 1670 = .ok (.iadd, 1) := by decide +kernel
theorem dL_law_1671 : decode cL_law 1671 = .ok (.iaload, 1) := by decide +kernel
theorem dL_law_1672 : decode cL_law 1672 = .ok (.invokevirtual 286, 3) := by decide +kernel
theorem dL_law_1675 : decode cL_law 1675 = .ok (.istore 6, 2) := by decide +kernel
theorem dL_law_1677 : decode cL_law 1677 = .ok (.aload_n 2, 1) := by decide +kernel
theorem dL_law_1678 : decode cL_law 1678 = .ok (.invokevirtual 190, 3) := by decide +kernel
theorem dL_law_1681 : decode cL_law 1681 = .ok (.iload 5, 2) := by decide +kernel
theorem dL_law_1683 : decode cL_law 1683 = .ok (.if_icmp .eq 5, 3) := by decide +kernel
theorem dL_law_1686 : decode cL_law 1686 = .ok (.iconst 0, 1) := by decide +kernel
theorem dL_law_1687 : decode cL_law 1687 = .ok (.ireturn, 1) := by decide +kernel
theorem dL_law_1688 : decode cL_law 1688 = .ok (.iload 5, 2) := by decide +kernel
theorem dL_law_1690 : decode cL_law 1690 = .ok (.ifCond .ne 15, 3) := by decide +kernel
theorem dL_law_1693 : decode cL_law 1693 = .ok (.aload_n 3, 1) := by decide +kernel
theorem dL_law_1694 : decode cL_law 1694 = .ok (.iconst 0, 1) := by decide +kernel
theorem dL_law_1695 : decode cL_law 1695 = .ok (.laload, 1) := by decide +kernel
theorem dL_law_1696 : decode cL_law 1696 = .ok (.iload 6, 2) := by decide +kernel
theorem dL_law_1698 : decode cL_law 1698 = .ok (.i2l, 1) := by decide +kernel
theorem dL_law_1699 : decode cL_law 1699 = .ok (.lcmp, 1) := by decide +kernel
theorem dL_law_1700 : decode cL_law 1700 = .ok (.ifCond .eq 5, 3) := by decide +kernel
theorem dL_law_1703 : decode cL_law 1703 = .ok (.iconst 0, 1) := by decide +kernel
theorem dL_law_1704 : decode cL_law 1704 = .ok (.ireturn, 1) := by decide +kernel
theorem dL_law_1705 : decode cL_law 1705 = .ok (.goto 1851, 3) := by decide +kernel
theorem dL_law_1708 : decode cL_law 1708 = .ok (.aload_n 1, 1) := by decide +kernel
theorem dL_law_1709 : decode cL_law 1709 = .ok (.aload_n 0, 1) := by decide +kernel
theorem dL_law_1710 : decode cL_law 1710 = .ok (.iload 4, 2) := by decide +kernel
theorem dL_law_1712 : decode cL_law 1712 = .ok (.iconst 1, 1) := by decide +kernel
theorem dL_law_1713 : decode cL_law 1713 = .ok (.iadd, 1) := by decide +kernel
theorem dL_law_1714 : decode cL_law 1714 = .ok (.iaload, 1) := by decide +kernel
theorem dL_law_1715 : decode cL_law 1715 = .ok (.aload_n 3, 1) := by decide +kernel
theorem dL_law_1716 : decode cL_law 1716 = .ok (.invokestatic 287, 3) := by decide +kernel
theorem dL_law_1719 : decode cL_law 1719 = .ok (.istore 5, 2) := by decide +kernel
theorem dL_law_1721 : decode cL_law 1721 = .ok (.aload_n 2, 1) := by decide +kernel
theorem dL_law_1722 : decode cL_law 1722 = .ok (.aload_n 0, 1) := by decide +kernel
theorem dL_law_1723 : decode cL_law 1723 = .ok (.iload 4, 2) := by decide +kernel
theorem dL_law_1725 : decode cL_law 1725 = .ok (.iconst 1, 1) := by decide +kernel
theorem dL_law_1726 : decode cL_law 1726 = .ok (.iadd, 1) := by decide +kernel
theorem dL_law_1727 : decode cL_law 1727 = .ok (.iaload, 1) := by decide +kernel
theorem dL_law_1728 : decode cL_law 1728 = .ok (.invokevirtual 289, 3) := by decide +kernel
theorem dL_law_1731 : decode cL_law 1731 = .ok (.istore 6, 2) := by decide +kernel
theorem dL_law_1733 : decode cL_law 1733 = .ok (.aload_n 2, 1) := by decide +kernel
theorem dL_law_1734 : decode cL_law 1734 = .ok (.invokevirtual 190, 3) := by decide +kernel
theorem dL_law_1737 : decode cL_law 1737 = .ok (.iload 5, 2) := by decide +kernel
theorem dL_law_1739 : decode cL_law 1739 = .ok (.if_icmp .eq 5, 3) := by decide +kernel
theorem dL_law_1742 : decode cL_law 1742 = .ok (.iconst 0, 1) := by decide +kernel
theorem dL_law_1743 : decode cL_law 1743 = .ok (.ireturn, 1) := by decide +kernel
theorem dL_law_1744 : decode cL_law 1744 = .ok (.iload 5, 2) := by decide +kernel
theorem dL_law_1746 : decode cL_law 1746 = .ok (.ifCond .ne 15, 3) := by decide +kernel
theorem dL_law_1749 : decode cL_law 1749 = .ok (.aload_n 3, 1) := by decide +kernel
theorem dL_law_1750 : decode cL_law 1750 = .ok (.iconst 0, 1) := by decide +kernel
theorem dL_law_1751 : decode cL_law 1751 = .ok (.laload, 1) := by decide +kernel
theorem dL_law_1752 : decode cL_law 1752 = .ok (.iload 6, 2) := by decide +kernel
theorem dL_law_1754 : decode cL_law 1754 = .ok (.i2l, 1) := by decide +kernel
theorem dL_law_1755 : decode cL_law 1755 = .ok (.lcmp, 1) := by decide +kernel
theorem dL_law_1756 : decode cL_law 1756 = .ok (.ifCond .eq 5, 3) := by decide +kernel
theorem dL_law_1759 : decode cL_law 1759 = .ok (.iconst 0, 1) := by decide +kernel
theorem dL_law_1760 : decode cL_law 1760 = .ok (.ireturn, 1) := by decide +kernel
theorem dL_law_1761 : decode cL_law 1761 = .ok (.goto 1795, 3) := by decide +kernel
theorem dL_law_1764 : decode cL_law 1764 = .ok (.aload_n 1, 1) := by decide +kernel
theorem dL_law_1765 : decode cL_law 1765 = .ok (.aload_n 3, 1) := by decide +kernel
theorem dL_law_1766 : decode cL_law 1766 = .ok (.invokestatic 290, 3) := by decide +kernel
theorem dL_law_1769 : decode cL_law 1769 = .ok (.istore 5, 2) := by decide +kernel
theorem dL_law_1771 : decode cL_law 1771 = .ok (.aload_n 2, 1) := by decide +kernel
theorem dL_law_1772 : decode cL_law 1772 = .ok (.invokevirtual 292, 3) := by decide +kernel
theorem dL_law_1775 : decode cL_law 1775 = .ok (.istore 6, 2) := by decide +kernel
theorem dL_law_1777 : decode cL_law 1777 = .ok (.aload_n 2, 1) := by decide +kernel
theorem dL_law_1778 : decode cL_law 1778 = .ok (.invokevirtual 190, 3) := by decide +kernel
theorem dL_law_1781 : decode cL_law 1781 = .ok (.iload 5, 2) := by decide +kernel
theorem dL_law_1783 : decode cL_law 1783 = .ok (.if_icmp .eq 5, 3) := by decide +kernel
theorem dL_law_1786 : decode cL_law 1786 = .ok (.iconst 0, 1) := by decide +kernel
theorem dL_law_1787 : decode cL_law 1787 = .ok (.ireturn, 1) := by decide +kernel
theorem dL_law_1788 : decode cL_law 1788 = .ok (.iload 5, 2) := by decide +kernel
theorem dL_law_1790 : decode cL_law 1790 = .ok (.ifCond .ne 15, 3) := by decide +kernel
theorem dL_law_1793 : decode cL_law 1793 = .ok (.aload_n 3, 1) := by decide +kernel
theorem dL_law_1794 : decode cL_law 1794 = .ok (.iconst 0, 1) := by decide +kernel
theorem dL_law_1795 : decode cL_law 1795 = .ok (.laload, 1) := by decide +kernel
theorem dL_law_1796 : decode cL_law 1796 = .ok (.iload 6, 2) := by decide +kernel
theorem dL_law_1798 : decode cL_law 1798 = .ok (.i2l, 1) := by decide +kernel
theorem dL_law_1799 : decode cL_law 1799 = .ok (.lcmp, 1) := by decide +kernel
theorem dL_law_1800 : decode cL_law 1800 = .ok (.ifCond .eq 5, 3) := by decide +kernel
theorem dL_law_1803 : decode cL_law 1803 = .ok (.iconst 0, 1) := by decide +kernel
theorem dL_law_1804 : decode cL_law 1804 = .ok (.ireturn, 1) := by decide +kernel
theorem dL_law_1805 : decode cL_law 1805 = .ok (.goto 1751, 3) := by decide +kernel
theorem dL_law_1808 : decode cL_law 1808 = .ok (.aload_n 1, 1) := by decide +kernel
theorem dL_law_1809 : decode cL_law 1809 = .ok (.aload_n 0, 1) := by decide +kernel
theorem dL_law_1810 : decode cL_law 1810 = .ok (.iload 4, 2) := by decide +kernel
theorem dL_law_1812 : decode cL_law 1812 = .ok (.iconst 1, 1) := by decide +kernel
theorem dL_law_1813 : decode cL_law 1813 = .ok (.iadd, 1) := by decide +kernel
theorem dL_law_1814 : decode cL_law 1814 = .ok (.iaload, 1) := by decide +kernel
theorem dL_law_1815 : decode cL_law 1815 = .ok (.aload_n 0, 1) := by decide +kernel
theorem dL_law_1816 : decode cL_law 1816 = .ok (.iload 4, 2) := by decide +kernel
theorem dL_law_1818 : decode cL_law 1818 = .ok (.iconst 2, 1) := by decide +kernel
theorem dL_law_1819 : decode cL_law 1819 = .ok (.iadd, 1) := by decide +kernel
theorem dL_law_1820 : decode cL_law 1820 = .ok (.iaload, 1) := by decide +kernel
theorem dL_law_1821 : decode cL_law 1821 = .ok (.aload_n 3, 1) := by decide +kernel
theorem dL_law_1822 : decode cL_law 1822 = .ok (.invokestatic 293, 3) := by decide +kernel
theorem dL_law_1825 : decode cL_law 1825 = .ok (.istore 5, 2) := by decide +kernel
theorem dL_law_1827 : decode cL_law 1827 = .ok (.aload_n 2, 1) := by decide +kernel
theorem dL_law_1828 : decode cL_law 1828 = .ok (.aload_n 0, 1) := by decide +kernel
theorem dL_law_1829 : decode cL_law 1829 = .ok (.iload 4, 2) := by decide +kernel
theorem dL_law_1831 : decode cL_law 1831 = .ok (.iconst 1, 1) := by decide +kernel
theorem dL_law_1832 : decode cL_law 1832 = .ok (.iadd, 1) := by decide +kernel
theorem dL_law_1833 : decode cL_law 1833 = .ok (.iaload, 1) := by decide +kernel
theorem dL_law_1834 : decode cL_law 1834 = .ok (.aload_n 0, 1) := by decide +kernel
theorem dL_law_1835 : decode cL_law 1835 = .ok (.iload 4, 2) := by decide +kernel
theorem dL_law_1837 : decode cL_law 1837 = .ok (.iconst 2, 1) := by decide +kernel
theorem dL_law_1838 : decode cL_law 1838 = .ok (.iadd, 1) := by decide +kernel
theorem dL_law_1839 : decode cL_law 1839 = .ok (.iaload, 1) := by decide +kernel
theorem dL_law_1840 : decode cL_law 1840 = .ok (.invokevirtual 295, 3) := by decide +kernel
theorem dL_law_1843 : decode cL_law 1843 = .ok (.istore 6, 2) := by decide +kernel
theorem dL_law_1845 : decode cL_law 1845 = .ok (.aload_n 2, 1) := by decide +kernel
theorem dL_law_1846 : decode cL_law 1846 = .ok (.invokevirtual 190, 3) := by decide +kernel
theorem dL_law_1849 : decode cL_law 1849 = .ok (.iload 5, 2) := by decide +kernel
theorem dL_law_1851 : decode cL_law 1851 = .ok (.if_icmp .eq 5, 3) := by decide +kernel
theorem dL_law_1854 : decode cL_law 1854 = .ok (.iconst 0, 1) := by decide +kernel
theorem dL_law_1855 : decode cL_law 1855 = .ok (.ireturn, 1) := by decide +kernel
theorem dL_law_1856 : decode cL_law 1856 = .ok (.iload 5, 2) := by decide +kernel
theorem dL_law_1858 : decode cL_law 1858 = .ok (.ifCond .ne 22, 3) := by decide +kernel
theorem dL_law_1861 : decode cL_law 1861 = .ok (.aload_n 3, 1) := by decide +kernel
theorem dL_law_1862 : decode cL_law 1862 = .ok (.iconst 0, 1) := by decide +kernel
theorem dL_law_1863 : decode cL_law 1863 = .ok (.laload, 1) := by decide +kernel
theorem dL_law_1864 : decode cL_law 1864 = .ok (.iload 6, 2) := by decide +kernel
theorem dL_law_1866 : decode cL_law 1866 = .ok (.ifCond .eq 7, 3) := by decide +kernel
theorem dL_law_1869 : decode cL_law 1869 = .ok (.lconst 1, 1) := by decide +kernel
theorem dL_law_1870 : decode cL_law 1870 = .ok (.goto 4, 3) := by decide +kernel
theorem dL_law_1873 : decode cL_law 1873 = .ok (.lconst 0, 1) := by decide +kernel
theorem dL_law_1874 : decode cL_law 1874 = .ok (.lcmp, 1) := by decide +kernel
theorem dL_law_1875 : decode cL_law 1875 = .ok (.ifCond .eq 5, 3) := by decide +kernel
theorem dL_law_1878 : decode cL_law 1878 = .ok (.iconst 0, 1) := by decide +kernel
theorem dL_law_1879 : decode cL_law 1879 = .ok (.ireturn, 1) := by decide +kernel
theorem dL_law_1880 : decode cL_law 1880 = .ok (.goto 1676, 3) := by decide +kernel
theorem dL_law_1883 : decode cL_law 1883 = .ok (.aload_n 1, 1) := by decide +kernel
theorem dL_law_1884 : decode cL_law 1884 = .ok (.aload_n 0, 1) := by decide +kernel
theorem dL_law_1885 : decode cL_law 1885 = .ok (.iload 4, 2) := by decide +kernel
theorem dL_law_1887 : decode cL_law 1887 = .ok (.iconst 1, 1) := by decide +kernel
theorem dL_law_1888 : decode cL_law 1888 = .ok (.iadd, 1) := by decide +kernel
theorem dL_law_1889 : decode cL_law 1889 = .ok (.iaload, 1) := by decide +kernel
theorem dL_law_1890 : decode cL_law 1890 = .ok (.aload_n 0, 1) := by decide +kernel
theorem dL_law_1891 : decode cL_law 1891 = .ok (.iload 4, 2) := by decide +kernel
theorem dL_law_1893 : decode cL_law 1893 = .ok (.iconst 2, 1) := by decide +kernel
theorem dL_law_1894 : decode cL_law 1894 = .ok (.iadd, 1) := by decide +kernel
theorem dL_law_1895 : decode cL_law 1895 = .ok (.iaload, 1) := by decide +kernel
theorem dL_law_1896 : decode cL_law 1896 = .ok (.aload_n 3, 1) := by decide +kernel
theorem dL_law_1897 : decode cL_law 1897 = .ok (.invokestatic 296, 3) := by decide +kernel
theorem dL_law_1900 : decode cL_law 1900 = .ok (.istore 5, 2) := by decide +kernel
theorem dL_law_1902 : decode cL_law 1902 = .ok (.aload_n 2, 1) := by decide +kernel
theorem dL_law_1903 : decode cL_law 1903 = .ok (.aload_n 0, 1) := by decide +kernel
theorem dL_law_1904 : decode cL_law 1904 = .ok (.iload 4, 2) := by decide +kernel
theorem dL_law_1906 : decode cL_law 1906 = .ok (.iconst 1, 1) := by decide +kernel
theorem dL_law_1907 : decode cL_law 1907 = .ok (.iadd, 1) := by decide +kernel
theorem dL_law_1908 : decode cL_law 1908 = .ok (.iaload, 1) := by decide +kernel
theorem dL_law_1909 : decode cL_law 1909 = .ok (.aload_n 0, 1) := by decide +kernel
theorem dL_law_1910 : decode cL_law 1910 = .ok (.iload 4, 2) := by decide +kernel
theorem dL_law_1912 : decode cL_law 1912 = .ok (.iconst 2, 1) := by decide +kernel
theorem dL_law_1913 : decode cL_law 1913 = .ok (.iadd, 1) := by decide +kernel
theorem dL_law_1914 : decode cL_law 1914 = .ok (.iaload, 1) := by decide +kernel
theorem dL_law_1915 : decode cL_law 1915 = .ok (.invokevirtual 298, 3) := by decide +kernel
theorem dL_law_1918 : decode cL_law 1918 = .ok (.istore 6, 2) := by decide +kernel
theorem dL_law_1920 : decode cL_law 1920 = .ok (.aload_n 2, 1) := by decide +kernel
theorem dL_law_1921 : decode cL_law 1921 = .ok (.invokevirtual 190, 3) := by decide +kernel
theorem dL_law_1924 : decode cL_law 1924 = .ok (.iload 5, 2) := by decide +kernel
theorem dL_law_1926 : decode cL_law 1926 = .ok (.if_icmp .eq 5, 3) := by decide +kernel
theorem dL_law_1929 : decode cL_law 1929 = .ok (.iconst 0, 1) := by decide +kernel
theorem dL_law_1930 : decode cL_law 1930 = .ok (.ireturn, 1) := by decide +kernel
theorem dL_law_1931 : decode cL_law 1931 = .ok (.iload 5, 2) := by decide +kernel
theorem dL_law_1933 : decode cL_law 1933 = .ok (.ifCond .ne 15, 3) := by decide +kernel
theorem dL_law_1936 : decode cL_law 1936 = .ok (.aload_n 3, 1) := by decide +kernel
theorem dL_law_1937 : decode cL_law 1937 = .ok (.iconst 0, 1) := by decide +kernel
theorem dL_law_1938 : decode cL_law 1938 = .ok (.laload, 1) := by decide +kernel
theorem dL_law_1939 : decode cL_law 1939 = .ok (.iload 6, 2) := by decide +kernel
theorem dL_law_1941 : decode cL_law 1941 = .ok (.i2l, 1) := by decide +kernel
theorem dL_law_1942 : decode cL_law 1942 = .ok (.lcmp, 1) := by decide +kernel
theorem dL_law_1943 : decode cL_law 1943 = .ok (.ifCond .eq 5, 3) := by decide +kernel
theorem dL_law_1946 : decode cL_law 1946 = .ok (.iconst 0, 1) := by decide +kernel
theorem dL_law_1947 : decode cL_law 1947 = .ok (.ireturn, 1) := by decide +kernel
theorem dL_law_1948 : decode cL_law 1948 = .ok (.goto 1608, 3) := by decide +kernel
theorem dL_law_1951 : decode cL_law 1951 = .ok (.aload_n 1, 1) := by decide +kernel
theorem dL_law_1952 : decode cL_law 1952 = .ok (.invokevirtual 299, 3) := by decide +kernel
theorem dL_law_1955 : decode cL_law 1955 = .ok (.aload_n 2, 1) := by decide +kernel
theorem dL_law_1956 : decode cL_law 1956 = .ok (.invokevirtual 302, 3) := by decide +kernel
theorem dL_law_1959 : decode cL_law 1959 = .ok (.if_icmp .eq 1597, 3) := by decide +kernel
theorem dL_law_1962 : decode cL_law 1962 = .ok (.iconst 0, 1) := by decide +kernel
theorem dL_law_1963 : decode cL_law 1963 = .ok (.ireturn, 1) := by decide +kernel
theorem dL_law_1964 : decode cL_law 1964 = .ok (.aload_n 1, 1) := by decide +kernel
theorem dL_law_1965 : decode cL_law 1965 = .ok (.invokevirtual 303, 3) := by decide +kernel
theorem dL_law_1968 : decode cL_law 1968 = .ok (.aload_n 2, 1) := by decide +kernel
theorem dL_law_1969 : decode cL_law 1969 = .ok (.invokevirtual 306, 3) := by decide +kernel
theorem dL_law_1972 : decode cL_law 1972 = .ok (.if_icmp .eq 1584, 3) := by decide +kernel
theorem dL_law_1975 : decode cL_law 1975 = .ok (.iconst 0, 1) := by decide +kernel
theorem dL_law_1976 : decode cL_law 1976 = .ok (.ireturn, 1) := by decide +kernel
theorem dL_law_1977 : decode cL_law 1977 = .ok (.aload_n 1, 1) := by decide +kernel
theorem dL_law_1978 : decode cL_law 1978 = .ok (.aload_n 0, 1) := by decide +kernel
theorem dL_law_1979 : decode cL_law 1979 = .ok (.iload 4, 2) := by decide +kernel
theorem dL_law_1981 : decode cL_law 1981 = .ok (.iconst 1, 1) := by decide +kernel
theorem dL_law_1982 : decode cL_law 1982 = .ok (.iadd, 1) := by decide +kernel
theorem dL_law_1983 : decode cL_law 1983 = .ok (.iaload, 1) := by decide +kernel
theorem dL_law_1984 : decode cL_law 1984 = .ok (.aload_n 3, 1) := by decide +kernel
theorem dL_law_1985 : decode cL_law 1985 = .ok (.invokestatic 307, 3) := by decide +kernel
theorem dL_law_1988 : decode cL_law 1988 = .ok (.istore 5, 2) := by decide +kernel
theorem dL_law_1990 : decode cL_law 1990 = .ok (.aload_n 2, 1) := by decide +kernel
theorem dL_law_1991 : decode cL_law 1991 = .ok (.aload_n 0, 1) := by decide +kernel
theorem dL_law_1992 : decode cL_law 1992 = .ok (.iload 4, 2) := by decide +kernel
theorem dL_law_1994 : decode cL_law 1994 = .ok (.iconst 1, 1) := by decide +kernel
theorem dL_law_1995 : decode cL_law 1995 = .ok (.iadd, 1) := by decide +kernel
theorem dL_law_1996 : decode cL_law 1996 = .ok (.iaload, 1) := by decide +kernel
theorem dL_law_1997 : decode cL_law 1997 = .ok (.invokevirtual 309, 3) := by decide +kernel
theorem dL_law_2000 : decode cL_law 2000 = .ok (.istore 6, 2) := by decide +kernel
theorem dL_law_2002 : decode cL_law 2002 = .ok (.aload_n 2, 1) := by decide +kernel
theorem dL_law_2003 : decode cL_law 2003 = .ok (.invokevirtual 190, 3) := by decide +kernel
theorem dL_law_2006 : decode cL_law 2006 = .ok (.iload 5, 2) := by decide +kernel
theorem dL_law_2008 : decode cL_law 2008 = .ok (.if_icmp .eq 5, 3) := by decide +kernel
theorem dL_law_2011 : decode cL_law 2011 = .ok (.iconst 0, 1) := by decide +kernel
theorem dL_law_2012 : decode cL_law 2012 = .ok (.ireturn, 1) := by decide +kernel
theorem dL_law_2013 : decode cL_law 2013 = .ok (.iload 5, 2) := by decide +kernel
theorem dL_law_2015 : decode cL_law 2015 = .ok (.ifCond .ne 15, 3) := by decide +kernel
theorem dL_law_2018 : decode cL_law 2018 = .ok (.aload_n 3, 1) := by decide +kernel
theorem dL_law_2019 : decode cL_law 2019 = .ok (.iconst 0, 1) := by decide +kernel
theorem dL_law_2020 : decode cL_law 2020 = .ok (.laload, 1) := by decide +kernel
theorem dL_law_2021 : decode cL_law 2021 = .ok (.iload 6, 2) := by decide +kernel
theorem dL_law_2023 : decode cL_law 2023 = .ok (.i2l, 1) := by decide +kernel
theorem dL_law_2024 : decode cL_law 2024 = .ok (.lcmp, 1) := by decide +kernel
theorem dL_law_2025 : decode cL_law 2025 = .ok (.ifCond .eq 5, 3) := by decide +kernel
theorem dL_law_2028 : decode cL_law 2028 = .ok (.iconst 0, 1) := by decide +kernel
theorem dL_law_2029 : decode cL_law 2029 = .ok (.ireturn, 1) := by decide +kernel
theorem dL_law_2030 : decode cL_law 2030 = .ok (.goto 1526, 3) := by decide +kernel
theorem dL_law_2033 : decode cL_law 2033 = .ok (.aload_n 1, 1) := by decide +kernel
theorem dL_law_2034 : decode cL_law 2034 = .ok (.aload_n 0, 1) := by decide +kernel
theorem dL_law_2035 : decode cL_law 2035 = .ok (.iload 4, 2) := by decide +kernel
theorem dL_law_2037 : decode cL_law 2037 = .ok (.iconst 1, 1) := by decide +kernel
theorem dL_law_2038 : decode cL_law 2038 = .ok (.iadd, 1) := by decide +kernel
theorem dL_law_2039 : decode cL_law 2039 = .ok (.iaload, 1) := by decide +kernel
theorem dL_law_2040 : decode cL_law 2040 = .ok (.aload_n 3, 1) := by decide +kernel
theorem dL_law_2041 : decode cL_law 2041 = .ok (.invokestatic 310, 3) := by decide +kernel
theorem dL_law_2044 : decode cL_law 2044 = .ok (.istore 5, 2) := by decide +kernel
theorem dL_law_2046 : decode cL_law 2046 = .ok (.aload_n 2, 1) := by decide +kernel
theorem dL_law_2047 : decode cL_law 2047 = .ok (.aload_n 0, 1) := by decide +kernel
theorem dL_law_2048 : decode cL_law 2048 = .ok (.iload 4, 2) := by decide +kernel
theorem dL_law_2050 : decode cL_law 2050 = .ok (.iconst 1, 1) := by decide +kernel
theorem dL_law_2051 : decode cL_law 2051 = .ok (.iadd, 1) := by decide +kernel
theorem dL_law_2052 : decode cL_law 2052 = .ok (.iaload, 1) := by decide +kernel
theorem dL_law_2053 : decode cL_law 2053 = .ok (.invokevirtual 312, 3) := by decide +kernel
theorem dL_law_2056 : decode cL_law 2056 = .ok (.istore 6, 2) := by decide +kernel
theorem dL_law_2058 : decode cL_law 2058 = .ok (.aload_n 2, 1) := by decide +kernel
theorem dL_law_2059 : decode cL_law 2059 = .ok (.invokevirtual 190, 3) := by decide +kernel
theorem dL_law_2062 : decode cL_law 2062 = .ok (.iload 5, 2) := by decide +kernel
theorem dL_law_2064 : decode cL_law 2064 = .ok (.if_icmp .eq 5, 3) := by decide +kernel
theorem dL_law_2067 : decode cL_law 2067 = .ok (.iconst 0, 1) := by decide +kernel
theorem dL_law_2068 : decode cL_law 2068 = .ok (.ireturn, 1) := by decide +kernel
theorem dL_law_2069 : decode cL_law 2069 = .ok (.iload 5, 2) := by decide +kernel
theorem dL_law_2071 : decode cL_law 2071 = .ok (.ifCond .ne 15, 3) := by decide +kernel
theorem dL_law_2074 : decode cL_law 2074 = .ok (.aload_n 3, 1) := by decide +kernel
theorem dL_law_2075 : decode cL_law 2075 = .ok (.iconst 0, 1) := by decide +kernel
theorem dL_law_2076 : decode cL_law 2076 = .ok (.laload, 1) := by decide +kernel
theorem dL_law_2077 : decode cL_law 2077 = .ok (.iload 6, 2) := by decide +kernel
theorem dL_law_2079 : decode cL_law 2079 = .ok (.i2l, 1) := by decide +kernel
theorem dL_law_2080 : decode cL_law 2080 = .ok (.lcmp, 1) := by decide +kernel
theorem dL_law_2081 : decode cL_law 2081 = .ok (.ifCond .eq 5, 3) := by decide +kernel
theorem dL_law_2084 : decode cL_law 2084 = .ok (.iconst 0, 1) := by decide +kernel
theorem dL_law_2085 : decode cL_law 2085 = .ok (.ireturn, 1) := by decide +kernel
theorem dL_law_2086 : decode cL_law 2086 = .ok (.goto 1470, 3) := by decide +kernel
theorem dL_law_2089 : decode cL_law 2089 = .ok (.aload_n 1, 1) := by decide +kernel
theorem dL_law_2090 : decode cL_law 2090 = .ok (.invokevirtual 313, 3) := by decide +kernel
theorem dL_law_2093 : decode cL_law 2093 = .ok (.aload_n 2, 1) := by decide +kernel
theorem dL_law_2094 : decode cL_law 2094 = .ok (.invokevirtual 316, 3) := by decide +kernel
theorem dL_law_2097 : decode cL_law 2097 = .ok (.if_icmp .eq 1459, 3) := by decide +kernel
theorem dL_law_2100 : decode cL_law 2100 = .ok (.iconst 0, 1) := by decide +kernel
theorem dL_law_2101 : decode cL_law 2101 = .ok (.ireturn, 1) := by decide +kernel
theorem dL_law_2102 : decode cL_law 2102 = .ok (.aload_n 1, 1) := by decide +kernel
theorem dL_law_2103 : decode cL_law 2103 = .ok (.invokevirtual 317, 3) := by decide +kernel
theorem dL_law_2106 : decode cL_law 2106 = .ok (.aload_n 2, 1) := by decide +kernel
theorem dL_law_2107 : decode cL_law 2107 = .ok (.invokevirtual 320, 3) := by decide +kernel
theorem dL_law_2110 : decode cL_law 2110 = .ok (.if_icmp .eq 1446, 3) := by decide +kernel
theorem dL_law_2113 : decode cL_law 2113 = .ok (.iconst 0, 1) := by decide +kernel
theorem dL_law_2114 : decode cL_law 2114 = .ok (.ireturn, 1) := by decide +kernel
theorem dL_law_2115 : decode cL_law 2115 = .ok (.aload_n 1, 1) := by decide +kernel
theorem dL_law_2116 : decode cL_law 2116 = .ok (.aload_n 3, 1) := by decide +kernel
theorem dL_law_2117 : decode cL_law 2117 = .ok (.invokestatic 321, 3) := by decide +kernel
theorem dL_law_2120 : decode cL_law 2120 = .ok (.istore 5, 2) := by decide +kernel
theorem dL_law_2122 : decode cL_law 2122 = .ok (.aload_n 2, 1) := by decide +kernel
theorem dL_law_2123 : decode cL_law 2123 = .ok (.invokevirtual 323, 3) := by decide +kernel
theorem dL_law_2126 : decode cL_law 2126 = .ok (.istore 6, 2) := by decide +kernel
theorem dL_law_2128 : decode cL_law 2128 = .ok (.aload_n 2, 1) := by decide +kernel
theorem dL_law_2129 : decode cL_law 2129 = .ok (.invokevirtual 190, 3) := by decide +kernel
theorem dL_law_2132 : decode cL_law 2132 = .ok (.iload 5, 2) := by decide +kernel
theorem dL_law_2134 : decode cL_law 2134 = .ok (.if_icmp .eq 5, 3) := by decide +kernel
theorem dL_law_2137 : decode cL_law 2137 = .ok (.iconst 0, 1) := by decide +kernel
theorem dL_law_2138 : decode cL_law 2138 = .ok (.ireturn, 1) := by decide +kernel
theorem dL_law_2139 : decode cL_law 2139 = .ok (.iload 5, 2) := by decide +kernel
theorem dL_law_2141 : decode cL_law 2141 = .ok (.ifCond .ne 15, 3) := by decide +kernel
theorem dL_law_2144 : decode cL_law 2144 = .ok (.aload_n 3, 1) := by decide +kernel
theorem dL_law_2145 : decode cL_law 2145 = .ok (.iconst 0, 1) := by decide +kernel
theorem dL_law_2146 : decode cL_law 2146 = .ok (.laload, 1) := by decide +kernel
theorem dL_law_2147 : decode cL_law 2147 = .ok (.iload 6, 2) := by decide +kernel
theorem dL_law_2149 : decode cL_law 2149 = .ok (.i2l, 1) := by decide +kernel
theorem dL_law_2150 : decode cL_law 2150 = .ok (.lcmp, 1) := by decide +kernel
theorem dL_law_2151 : decode cL_law 2151 = .ok (.ifCond .eq 5, 3) := by decide +kernel
theorem dL_law_2154 : decode cL_law 2154 = .ok (.iconst 0, 1) := by decide +kernel
theorem dL_law_2155 : decode cL_law 2155 = .ok (.ireturn, 1) := by decide +kernel
theorem dL_law_2156 : decode cL_law 2156 = .ok (.goto 1400, 3) := by decide +kernel
theorem dL_law_2159 : decode cL_law 2159 = .ok (.aload_n 1, 1) := by decide +kernel
theorem dL_law_2160 : decode cL_law 2160 = .ok (.aload_n 0, 1) := by decide +kernel
theorem dL_law_2161 : decode cL_law 2161 = .ok (.iload 4, 2) := by decide +kernel
theorem dL_law_2163 : decode cL_law 2163 = .ok (.iconst 1, 1) := by decide +kernel
theorem dL_law_2164 : decode cL_law 2164 = .ok (.iadd, 1) := by decide +kernel
theorem dL_law_2165 : decode cL_law 2165 = .ok (.iaload, 1) := by decide +kernel
theorem dL_law_2166 : decode cL_law 2166 = .ok (.aload_n 3, 1) := by decide +kernel
theorem dL_law_2167 : decode cL_law 2167 = .ok (.invokestatic 324, 3) := by decide +kernel
theorem dL_law_2170 : decode cL_law 2170 = .ok (.istore 5, 2) := by decide +kernel
theorem dL_law_2172 : decode cL_law 2172 = .ok (.aload_n 2, 1) := by decide +kernel
theorem dL_law_2173 : decode cL_law 2173 = .ok (.aload_n 0, 1) := by decide +kernel
theorem dL_law_2174 : decode cL_law 2174 = .ok (.iload 4, 2) := by decide +kernel
theorem dL_law_2176 : decode cL_law 2176 = .ok (.iconst 1, 1) := by decide +kernel
theorem dL_law_2177 : decode cL_law 2177 = .ok (.iadd, 1) := by decide +kernel
theorem dL_law_2178 : decode cL_law 2178 = .ok (.iaload, 1) := by decide +kernel
theorem dL_law_2179 : decode cL_law 2179 = .ok (.invokevirtual 326, 3) := by decide +kernel
theorem dL_law_2182 : decode cL_law 2182 = .ok (.istore 6, 2) := by decide +kernel
theorem dL_law_2184 : decode cL_law 2184 = .ok (.aload_n 2, 1) := by decide +kernel
theorem dL_law_2185 : decode cL_law 2185 = .ok (.invokevirtual 190, 3) := by decide +kernel
theorem dL_law_2188 : decode cL_law 2188 = .ok (.iload 5, 2) := by decide +kernel
theorem dL_law_2190 : decode cL_law 2190 = .ok (.if_icmp .eq 5, 3) := by decide +kernel
theorem dL_law_2193 : decode cL_law 2193 = .ok (.iconst 0, 1) := by decide +kernel
theorem dL_law_2194 : decode cL_law 2194 = .ok (.ireturn, 1) := by decide +kernel
theorem dL_law_2195 : decode cL_law 2195 = .ok (.iload 5, 2) := by decide +kernel
theorem dL_law_2197 : decode cL_law 2197 = .ok (.ifCond .ne 15, 3) := by decide +kernel
theorem dL_law_2200 : decode cL_law 2200 = .ok (.aload_n 3, 1) := by decide +kernel
theorem dL_law_2201 : decode cL_law 2201 = .ok (.iconst 0, 1) := by decide +kernel
theorem dL_law_2202 : decode cL_law 2202 = .ok (.laload, 1) := by decide +kernel
theorem dL_law_2203 : decode cL_law 2203 = .ok (.iload 6, 2) := by decide +kernel
theorem dL_law_2205 : decode cL_law 2205 = .ok (.i2l, 1) := by decide +kernel
theorem dL_law_2206 : decode cL_law 2206 = .ok (.lcmp, 1) := by decide +kernel
theorem dL_law_2207 : decode cL_law 2207 = .ok (.ifCond .eq 5, 3) := by decide +kernel
theorem dL_law_2210 : decode cL_law 2210 = .ok (.iconst 0, 1) := by decide +kernel
theorem dL_law_2211 : decode cL_law 2211 = .ok (.ireturn, 1) := by decide +kernel
theorem dL_law_2212 : decode cL_law 2212 = .ok (.goto 1344, 3) := by decide +kernel
theorem dL_law_2215 : decode cL_law 2215 = .ok (.aload_n 1, 1) := by decide +kernel
theorem dL_law_2216 : decode cL_law 2216 = .ok (.invokevirtual 327, 3) := by decide +kernel
theorem dL_law_2219 : decode cL_law 2219 = .ok (.aload_n 2, 1) := by decide +kernel
theorem dL_law_2220 : decode cL_law 2220 = .ok (.invokevirtual 330, 3) := by decide +kernel
theorem dL_law_2223 : decode cL_law 2223 = .ok (.if_icmp .eq 1333, 3) := by decide +kernel
theorem dL_law_2226 : decode cL_law 2226 = .ok (.iconst 0, 1) := by decide +kernel
theorem dL_law_2227 : decode cL_law 2227 = .ok (.ireturn, 1) := by decide +kernel
theorem dL_law_2228 : decode cL_law 2228 = .ok (.aload_n 1, 1) := by decide +kernel
theorem dL_law_2229 : decode cL_law 2229 = .ok (.aload_n 0, 1) := by decide +kernel
theorem dL_law_2230 : decode cL_law 2230 = .ok (.iload 4, 2) := by decide +kernel
theorem dL_law_2232 : decode cL_law 2232 = .ok (.iconst 1, 1) := by decide +kernel
theorem dL_law_2233 : decode cL_law 2233 = .ok (.iadd, 1) := by decide +kernel
theorem dL_law_2234 : decode cL_law 2234 = .ok (.iaload, 1) := by decide +kernel
theorem dL_law_2235 : decode cL_law 2235 = .ok (.aload_n 3, 1) := by decide +kernel
theorem dL_law_2236 : decode cL_law 2236 = .ok (.invokestatic 331, 3) := by decide +kernel
theorem dL_law_2239 : decode cL_law 2239 = .ok (.istore 5, 2) := by decide +kernel
theorem dL_law_2241 : decode cL_law 2241 = .ok (.aload_n 2, 1) := by decide +kernel
theorem dL_law_2242 : decode cL_law 2242 = .ok (.aload_n 0, 1) := by decide +kernel
theorem dL_law_2243 : decode cL_law 2243 = .ok (.iload 4, 2) := by decide +kernel
theorem dL_law_2245 : decode cL_law 2245 = .ok (.iconst 1, 1) := by decide +kernel
theorem dL_law_2246 : decode cL_law 2246 = .ok (.iadd, 1) := by decide +kernel
theorem dL_law_2247 : decode cL_law 2247 = .ok (.iaload, 1) := by decide +kernel
theorem dL_law_2248 : decode cL_law 2248 = .ok (.invokevirtual 333, 3) := by decide +kernel
theorem dL_law_2251 : decode cL_law 2251 = .ok (.istore 6, 2) := by decide +kernel
theorem dL_law_2253 : decode cL_law 2253 = .ok (.aload_n 2, 1) := by decide +kernel
theorem dL_law_2254 : decode cL_law 2254 = .ok (.invokevirtual 190, 3) := by decide +kernel
theorem dL_law_2257 : decode cL_law 2257 = .ok (.iload 5, 2) := by decide +kernel
theorem dL_law_2259 : decode cL_law 2259 = .ok (.if_icmp .eq 5, 3) := by decide +kernel
theorem dL_law_2262 : decode cL_law 2262 = .ok (.iconst 0, 1) := by decide +kernel
theorem dL_law_2263 : decode cL_law 2263 = .ok (.ireturn, 1) := by decide +kernel
theorem dL_law_2264 : decode cL_law 2264 = .ok (.iload 5, 2) := by decide +kernel
theorem dL_law_2266 : decode cL_law 2266 = .ok (.ifCond .ne 15, 3) := by decide +kernel
theorem dL_law_2269 : decode cL_law 2269 = .ok (.aload_n 3, 1) := by decide +kernel
theorem dL_law_2270 : decode cL_law 2270 = .ok (.iconst 0, 1) := by decide +kernel
theorem dL_law_2271 : decode cL_law 2271 = .ok (.laload, 1) := by decide +kernel
theorem dL_law_2272 : decode cL_law 2272 = .ok (.iload 6, 2) := by decide +kernel
theorem dL_law_2274 : decode cL_law 2274 = .ok (.i2l, 1) := by decide +kernel
theorem dL_law_2275 : decode cL_law 2275 = .ok (.lcmp, 1) := by decide +kernel
theorem dL_law_2276 : decode cL_law 2276 = .ok (.ifCond .eq 5, 3) := by decide +kernel
theorem dL_law_2279 : decode cL_law 2279 = .ok (.iconst 0, 1) := by decide +kernel
theorem dL_law_2280 : decode cL_law 2280 = .ok (.ireturn, 1) := by decide +kernel
theorem dL_law_2281 : decode cL_law 2281 = .ok (.goto 1275, 3) := by decide +kernel
theorem dL_law_2284 : decode cL_law 2284 = .ok (.aload_n 1, 1) := by decide +kernel
theorem dL_law_2285 : decode cL_law 2285 = .ok (.aload_n 0, 1) := by decide +kernel
theorem dL_law_2286 : decode cL_law 2286 = .ok (.iload 4, 2) := by decide +kernel
theorem dL_law_2288 : decode cL_law 2288 = .ok (.iconst 1, 1) := by decide +kernel
theorem dL_law_2289 : decode cL_law 2289 = .ok (.iadd, 1) := by decide +kernel
theorem dL_law_2290 : decode cL_law 2290 = .ok (.iaload, 1) := by decide +kernel
theorem dL_law_2291 : decode cL_law 2291 = .ok (.aload_n 3, 1) := by decide +kernel
theorem dL_law_2292 : decode cL_law 2292 = .ok (.invokestatic 334, 3) := by decide +kernel
theorem dL_law_2295 : decode cL_law 2295 = .ok (.istore 5, 2) := by decide +kernel
theorem dL_law_2297 : decode cL_law 2297 = .ok (.aload_n 2, 1) := by decide +kernel
theorem dL_law_2298 : decode cL_law 2298 = .ok (.aload_n 0, 1) := by decide +kernel
theorem dL_law_2299 : decode cL_law 2299 = .ok (.iload 4, 2) := by decide +kernel
theorem dL_law_2301 : decode cL_law 2301 = .ok (.iconst 1, 1) := by decide +kernel
theorem dL_law_2302 : decode cL_law 2302 = .ok (.iadd, 1) := by decide +kernel
theorem dL_law_2303 : decode cL_law 2303 = .ok (.iaload, 1) := by decide +kernel
theorem dL_law_2304 : decode cL_law 2304 = .ok (.invokevirtual 336, 3) := by decide +kernel
theorem dL_law_2307 : decode cL_law 2307 = .ok (.istore 6, 2) := by decide +kernel
theorem dL_law_2309 : decode cL_law 2309 = .ok (.aload_n 2, 1) := by decide +kernel
theorem dL_law_2310 : decode cL_law 2310 = .ok (.invokevirtual 190, 3) := by decide +kernel
theorem dL_law_2313 : decode cL_law 2313 = .ok (.iload 5, 2) := by decide +kernel
theorem dL_law_2315 : decode cL_law 2315 = .ok (.if_icmp .eq 5, 3) := by decide +kernel
theorem dL_law_2318 : decode cL_law 2318 = .ok (.iconst 0, 1) := by decide +kernel
theorem dL_law_2319 : decode cL_law 2319 = .ok (.ireturn, 1) := by decide +kernel
theorem dL_law_2320 : decode cL_law 2320 = .ok (.iload 5, 2) := by decide +kernel
theorem dL_law_2322 : decode cL_law 2322 = .ok (.ifCond .ne 22, 3) := by decide +kernel
theorem dL_law_2325 : decode cL_law 2325 = .ok (.aload_n 3, 1) := by decide +kernel
theorem dL_law_2326 : decode cL_law 2326 = .ok (.iconst 0, 1) := by decide +kernel
theorem dL_law_2327 : decode cL_law 2327 = .ok (.laload, 1) := by decide +kernel
theorem dL_law_2328 : decode cL_law 2328 = .ok (.iload 6, 2) := by decide +kernel
theorem dL_law_2330 : decode cL_law 2330 = .ok (.ifCond .eq 7, 3) := by decide +kernel
theorem dL_law_2333 : decode cL_law 2333 = .ok (.lconst 1, 1) := by decide +kernel
theorem dL_law_2334 : decode cL_law 2334 = .ok (.goto 4, 3) := by decide +kernel
theorem dL_law_2337 : decode cL_law 2337 = .ok (.lconst 0, 1) := by decide +kernel
theorem dL_law_2338 : decode cL_law 2338 = .ok (.lcmp, 1) := by decide +kernel
theorem dL_law_2339 : decode cL_law 2339 = .ok (.ifCond .eq 5, 3) := by decide +kernel
theorem dL_law_2342 : decode cL_law 2342 = .ok (.iconst 0, 1) := by decide +kernel
theorem dL_law_2343 : decode cL_law 2343 = .ok (.ireturn, 1) := by decide +kernel
theorem dL_law_2344 : decode cL_law 2344 = .ok (.goto 1212, 3) := by decide +kernel
theorem dL_law_2347 : decode cL_law 2347 = .ok (.aload_n 1, 1) := by decide +kernel
theorem dL_law_2348 : decode cL_law 2348 = .ok (.aload_n 0, 1) := by decide +kernel
theorem dL_law_2349 : decode cL_law 2349 = .ok (.iload 4, 2) := by decide +kernel
theorem dL_law_2351 : decode cL_law 2351 = .ok (.iconst 1, 1) := by decide +kernel
theorem dL_law_2352 : decode cL_law 2352 = .ok (.iadd, 1) := by decide +kernel
theorem dL_law_2353 : decode cL_law 2353 = .ok (.iaload, 1) := by decide +kernel
theorem dL_law_2354 : decode cL_law 2354 = .ok (.aload_n 3, 1) := by decide +kernel
theorem dL_law_2355 : decode cL_law 2355 = .ok (.invokestatic 337, 3) := by decide +kernel
theorem dL_law_2358 : decode cL_law 2358 = .ok (.istore 5, 2) := by decide +kernel
theorem dL_law_2360 : decode cL_law 2360 = .ok (.aload_n 2, 1) := by decide +kernel
theorem dL_law_2361 : decode cL_law 2361 = .ok (.aload_n 0, 1) := by decide +kernel
theorem dL_law_2362 : decode cL_law 2362 = .ok (.iload 4, 2) := by decide +kernel
theorem dL_law_2364 : decode cL_law 2364 = .ok (.iconst 1, 1) := by decide +kernel
theorem dL_law_2365 : decode cL_law 2365 = .ok (.iadd, 1) := by decide +kernel
theorem dL_law_2366 : decode cL_law 2366 = .ok (.iaload, 1) := by decide +kernel
theorem dL_law_2367 : decode cL_law 2367 = .ok (.invokevirtual 339, 3) := by decide +kernel
theorem dL_law_2370 : decode cL_law 2370 = .ok (.istore 6, 2) := by decide +kernel
theorem dL_law_2372 : decode cL_law 2372 = .ok (.aload_n 2, 1) := by decide +kernel
theorem dL_law_2373 : decode cL_law 2373 = .ok (.invokevirtual 190, 3) := by decide +kernel
theorem dL_law_2376 : decode cL_law 2376 = .ok (.iload 5, 2) := by decide +kernel
theorem dL_law_2378 : decode cL_law 2378 = .ok (.if_icmp .eq 5, 3) := by decide +kernel
theorem dL_law_2381 : decode cL_law 2381 = .ok (.iconst 0, 1) := by decide +kernel
theorem dL_law_2382 : decode cL_law 2382 = .ok (.ireturn, 1) := by decide +kernel
theorem dL_law_2383 : decode cL_law 2383 = .ok (.iload 5, 2) := by decide +kernel
theorem dL_law_2385 : decode cL_law 2385 = .ok (.ifCond .ne 15, 3) := by decide +kernel
theorem dL_law_2388 : decode cL_law 2388 = .ok (.aload_n 3, 1) := by decide +kernel
theorem dL_law_2389 : decode cL_law 2389 = .ok (.iconst 0, 1) := by decide +kernel
theorem dL_law_2390 : decode cL_law 2390 = .ok (.laload, 1) := by decide +kernel
theorem dL_law_2391 : decode cL_law 2391 = .ok (.iload 6, 2) := by decide +kernel
theorem dL_law_2393 : decode cL_law 2393 = .ok (.i2l, 1) := by decide +kernel
theorem dL_law_2394 : decode cL_law 2394 = .ok (.lcmp, 1) := by decide +kernel
theorem dL_law_2395 : decode cL_law 2395 = .ok (.ifCond .eq 5, 3) := by decide +kernel
theorem dL_law_2398 : decode cL_law 2398 = .ok (.iconst 0, 1) := by decide +kernel
theorem dL_law_2399 : decode cL_law 2399 = .ok (.ireturn, 1) := by decide +kernel
theorem dL_law_2400 : decode cL_law 2400 = .ok (.goto 1156, 3) := by decide +kernel
theorem dL_law_2403 : decode cL_law 2403 = .ok (.aload_n 1, 1) := by decide +kernel
theorem dL_law_2404 : decode cL_law 2404 = .ok (.aload_n 0, 1) := by decide +kernel
theorem dL_law_2405 : decode cL_law 2405 = .ok (.iload 4, 2) := by decide +kernel
theorem dL_law_2407 : decode cL_law 2407 = .ok (.iconst 1, 1) := by decide +kernel
theorem dL_law_2408 : decode cL_law 2408 = .ok (.iadd, 1) := by decide +kernel
theorem dL_law_2409 : decode cL_law 2409 = .ok (.iaload, 1) := by decide +kernel
theorem dL_law_2410 : decode cL_law 2410 = .ok (.aload_n 3, 1) := by decide +kernel
theorem dL_law_2411 : decode cL_law 2411 = .ok (.invokestatic 340, 3) := by decide +kernel
theorem dL_law_2414 : decode cL_law 2414 = .ok (.istore 5, 2) := by decide +kernel
theorem dL_law_2416 : decode cL_law 2416 = .ok (.aload_n 2, 1) := by decide +kernel
theorem dL_law_2417 : decode cL_law 2417 = .ok (.aload_n 0, 1) := by decide +kernel
theorem dL_law_2418 : decode cL_law 2418 = .ok (.iload 4, 2) := by decide +kernel
theorem dL_law_2420 : decode cL_law 2420 = .ok (.iconst 1, 1) := by decide +kernel
theorem dL_law_2421 : decode cL_law 2421 = .ok (.iadd, 1) := by decide +kernel
theorem dL_law_2422 : decode cL_law 2422 = .ok (.iaload, 1) := by decide +kernel
theorem dL_law_2423 : decode cL_law 2423 = .ok (.invokevirtual 342, 3) := by decide +kernel
theorem dL_law_2426 : decode cL_law 2426 = .ok (.istore 6, 2) := by decide +kernel
theorem dL_law_2428 : decode cL_law 2428 = .ok (.aload_n 2, 1) := by decide +kernel
theorem dL_law_2429 : decode cL_law 2429 = .ok (.invokevirtual 190, 3) := by decide +kernel
theorem dL_law_2432 : decode cL_law 2432 = .ok (.iload 5, 2) := by decide +kernel
theorem dL_law_2434 : decode cL_law 2434 = .ok (.if_icmp .eq 5, 3) := by decide +kernel
theorem dL_law_2437 : decode cL_law 2437 = .ok (.iconst 0, 1) := by decide +kernel
theorem dL_law_2438 : decode cL_law 2438 = .ok (.ireturn, 1) := by decide +kernel
theorem dL_law_2439 : decode cL_law 2439 = .ok (.iload 5, 2) := by decide +kernel
theorem dL_law_2441 : decode cL_law 2441 = .ok (.ifCond .ne 15, 3) := by decide +kernel
theorem dL_law_2444 : decode cL_law 2444 = .ok (.aload_n 3, 1) := by decide +kernel
theorem dL_law_2445 : decode cL_law 2445 = .ok (.iconst 0, 1) := by decide +kernel
theorem dL_law_2446 : decode cL_law 2446 = .ok (.laload, 1) := by decide +kernel
theorem dL_law_2447 : decode cL_law 2447 = .ok (.iload 6, 2) := by decide +kernel
theorem dL_law_2449 : decode cL_law 2449 = .ok (.i2l, 1) := by decide +kernel
theorem dL_law_2450 : decode cL_law 2450 = .ok (.lcmp, 1) := by decide +kernel
theorem dL_law_2451 : decode cL_law 2451 = .ok (.ifCond .eq 5, 3) := by decide +kernel
theorem dL_law_2454 : decode cL_law 2454 = .ok (.iconst 0, 1) := by decide +kernel
theorem dL_law_2455 : decode cL_law 2455 = .ok (.ireturn, 1) := by decide +kernel
theorem dL_law_2456 : decode cL_law 2456 = .ok (.goto 1100, 3) := by decide +kernel
theorem dL_law_2459 : decode cL_law 2459 = .ok (.aload_n 1, 1) := by decide +kernel
theorem dL_law_2460 : decode cL_law 2460 = .ok (.aload_n 0, 1) := by decide +kernel
theorem dL_law_2461 : decode cL_law 2461 = .ok (.iload 4, 2) := by decide +kernel
theorem dL_law_2463 : decode cL_law 2463 = .ok (.iconst 1, 1) := by decide +kernel
theorem dL_law_2464 : decode cL_law 2464 = .ok (.iadd, 1) := by decide +kernel
theorem dL_law_2465 : decode cL_law 2465 = .ok (.iaload, 1) := by decide +kernel
theorem dL_law_2466 : decode cL_law 2466 = .ok (.aload_n 3, 1) := by decide +kernel
theorem dL_law_2467 : decode cL_law 2467 = .ok (.invokestatic 343, 3) := by decide +kernel
theorem dL_law_2470 : decode cL_law 2470 = .ok (.istore 5, 2) := by decide +kernel
theorem dL_law_2472 : decode cL_law 2472 = .ok (.aload_n 2, 1) := by decide +kernel
theorem dL_law_2473 : decode cL_law 2473 = .ok (.aload_n 0, 1) := by decide +kernel
theorem dL_law_2474 : decode cL_law 2474 = .ok (.iload 4, 2) := by decide +kernel
theorem dL_law_2476 : decode cL_law 2476 = .ok (.iconst 1, 1) := by decide +kernel
theorem dL_law_2477 : decode cL_law 2477 = .ok (.iadd, 1) := by decide +kernel
theorem dL_law_2478 : decode cL_law 2478 = .ok (.iaload, 1) := by decide +kernel
theorem dL_law_2479 : decode cL_law 2479 = .ok (.invokevirtual 345, 3) := by decide +kernel
theorem dL_law_2482 : decode cL_law 2482 = .ok (.istore 6, 2) := by decide +kernel
theorem dL_law_2484 : decode cL_law 2484 = .ok (.aload_n 2, 1) := by decide +kernel
theorem dL_law_2485 : decode cL_law 2485 = .ok (.invokevirtual 190, 3) := by decide +kernel
theorem dL_law_2488 : decode cL_law 2488 = .ok (.iload 5, 2) := by decide +kernel
theorem dL_law_2490 : decode cL_law 2490 = .ok (.if_icmp .eq 5, 3) := by decide +kernel
theorem dL_law_2493 : decode cL_law 2493 = .ok (.iconst 0, 1) := by decide +kernel
theorem dL_law_2494 : decode cL_law 2494 = .ok (.ireturn, 1) := by decide +kernel
theorem dL_law_2495 : decode cL_law 2495 = .ok (.iload 5, 2) := by decide +kernel
theorem dL_law_2497 : decode cL_law 2497 = .ok (.ifCond .ne 15, 3) := by decide +kernel
theorem dL_law_2500 : decode cL_law 2500 = .ok (.aload_n 3, 1) := by decide +kernel
theorem dL_law_2501 : decode cL_law 2501 = .ok (.iconst 0, 1) := by decide +kernel
theorem dL_law_2502 : decode cL_law 2502 = .ok (.laload, 1) := by decide +kernel
theorem dL_law_2503 : decode cL_law 2503 = .ok (.iload 6, 2) := by decide +kernel
theorem dL_law_2505 : decode cL_law 2505 = .ok (.i2l, 1) := by decide +kernel
theorem dL_law_2506 : decode cL_law 2506 = .ok (.lcmp, 1) := by decide +kernel
theorem dL_law_2507 : decode cL_law 2507 = .ok (.ifCond .eq 5, 3) := by decide +kernel
theorem dL_law_2510 : decode cL_law 2510 = .ok (.iconst 0, 1) := by decide +kernel
theorem dL_law_2511 : decode cL_law 2511 = .ok (.ireturn, 1) := by decide +kernel
theorem dL_law_2512 : decode cL_law 2512 = .ok (.goto 1044, 3) := by decide +kernel
theorem dL_law_2515 : decode cL_law 2515 = .ok (.aload_n 1, 1) := by decide +kernel
theorem dL_law_2516 : decode cL_law 2516 = .ok (.aload_n 0, 1) := by decide +kernel
theorem dL_law_2517 : decode cL_law 2517 = .ok (.iload 4, 2) := by decide +kernel
theorem dL_law_2519 : decode cL_law 2519 = .ok (.iconst 1, 1) := by decide +kernel
theorem dL_law_2520 : decode cL_law 2520 = .ok (.iadd, 1) := by decide +kernel
theorem dL_law_2521 : decode cL_law 2521 = .ok (.iaload, 1) := by decide +kernel
theorem dL_law_2522 : decode cL_law 2522 = .ok (.aload_n 3, 1) := by decide +kernel
theorem dL_law_2523 : decode cL_law 2523 = .ok (.invokestatic 346, 3) := by decide +kernel
theorem dL_law_2526 : decode cL_law 2526 = .ok (.istore 5, 2) := by decide +kernel
theorem dL_law_2528 : decode cL_law 2528 = .ok (.aload_n 2, 1) := by decide +kernel
theorem dL_law_2529 : decode cL_law 2529 = .ok (.aload_n 0, 1) := by decide +kernel
theorem dL_law_2530 : decode cL_law 2530 = .ok (.iload 4, 2) := by decide +kernel
theorem dL_law_2532 : decode cL_law 2532 = .ok (.iconst 1, 1) := by decide +kernel
theorem dL_law_2533 : decode cL_law 2533 = .ok (.iadd, 1) := by decide +kernel
theorem dL_law_2534 : decode cL_law 2534 = .ok (.iaload, 1) := by decide +kernel
theorem dL_law_2535 : decode cL_law 2535 = .ok (.invokevirtual 348, 3) := by decide +kernel
theorem dL_law_2538 : decode cL_law 2538 = .ok (.istore 6, 2) := by decide +kernel
theorem dL_law_2540 : decode cL_law 2540 = .ok (.aload_n 2, 1) := by decide +kernel
theorem dL_law_2541 : decode cL_law 2541 = .ok (.invokevirtual 190, 3) := by decide +kernel
theorem dL_law_2544 : decode cL_law 2544 = .ok (.iload 5, 2) := by decide +kernel
theorem dL_law_2546 : decode cL_law 2546 = .ok (.if_icmp .eq 5, 3) := by decide +kernel
theorem dL_law_2549 : decode cL_law 2549 = .ok (.iconst 0, 1) := by decide +kernel
theorem dL_law_2550 : decode cL_law 2550 = .ok (.ireturn, 1) := by decide +kernel
theorem dL_law_2551 : decode cL_law 2551 = .ok (.iload 5, 2) := by decide +kernel
theorem dL_law_2553 : decode cL_law 2553 = .ok (.ifCond .ne 15, 3) := by decide +kernel
theorem dL_law_2556 : decode cL_law 2556 = .ok (.aload_n 3, 1) := by decide +kernel
theorem dL_law_2557 : decode cL_law 2557 = .ok (.iconst 0, 1) := by decide +kernel
theorem dL_law_2558 : decode cL_law 2558 = .ok (.laload, 1) := by decide +kernel
theorem dL_law_2559 : decode cL_law 2559 = .ok (.iload 6, 2) := by decide +kernel
theorem dL_law_2561 : decode cL_law 2561 = .ok (.i2l, 1) := by decide +kernel
theorem dL_law_2562 : decode cL_law 2562 = .ok (.lcmp, 1) := by decide +kernel
theorem dL_law_2563 : decode cL_law 2563 = .ok (.ifCond .eq 5, 3) := by decide +kernel
theorem dL_law_2566 : decode cL_law 2566 = .ok (.iconst 0, 1) := by decide +kernel
theorem dL_law_2567 : decode cL_law 2567 = .ok (.ireturn, 1) := by decide +kernel
theorem dL_law_2568 : decode cL_law 2568 = .ok (.goto 988, 3) := by decide +kernel
theorem dL_law_2571 : decode cL_law 2571 = .ok (.aload_n 1, 1) := by decide +kernel
theorem dL_law_2572 : decode cL_law 2572 = .ok (.aload_n 0, 1) := by decide +kernel
theorem dL_law_2573 : decode cL_law 2573 = .ok (.iload 4, 2) := by decide +kernel
theorem dL_law_2575 : decode cL_law 2575 = .ok (.iconst 1, 1) := by decide +kernel
theorem dL_law_2576 : decode cL_law 2576 = .ok (.iadd, 1) := by decide +kernel
theorem dL_law_2577 : decode cL_law 2577 = .ok (.iaload, 1) := by decide +kernel
theorem dL_law_2578 : decode cL_law 2578 = .ok (.aload_n 3, 1) := by decide +kernel
theorem dL_law_2579 : decode cL_law 2579 = .ok (.invokestatic 349, 3) := by decide +kernel
theorem dL_law_2582 : decode cL_law 2582 = .ok (.istore 5, 2) := by decide +kernel
theorem dL_law_2584 : decode cL_law 2584 = .ok (.aload_n 2, 1) := by decide +kernel
theorem dL_law_2585 : decode cL_law 2585 = .ok (.aload_n 0, 1) := by decide +kernel
theorem dL_law_2586 : decode cL_law 2586 = .ok (.iload 4, 2) := by decide +kernel
theorem dL_law_2588 : decode cL_law 2588 = .ok (.iconst 1, 1) := by decide +kernel
theorem dL_law_2589 : decode cL_law 2589 = .ok (.iadd, 1) := by decide +kernel
theorem dL_law_2590 : decode cL_law 2590 = .ok (.iaload, 1) := by decide +kernel
theorem dL_law_2591 : decode cL_law 2591 = .ok (.invokevirtual 351, 3) := by decide +kernel
theorem dL_law_2594 : decode cL_law 2594 = .ok (.istore 6, 2) := by decide +kernel
theorem dL_law_2596 : decode cL_law 2596 = .ok (.aload_n 2, 1) := by decide +kernel
theorem dL_law_2597 : decode cL_law 2597 = .ok (.invokevirtual 190, 3) := by decide +kernel
theorem dL_law_2600 : decode cL_law 2600 = .ok (.iload 5, 2) := by decide +kernel
theorem dL_law_2602 : decode cL_law 2602 = .ok (.if_icmp .eq 5, 3) := by decide +kernel
theorem dL_law_2605 : decode cL_law 2605 = .ok (.iconst 0, 1) := by decide +kernel
theorem dL_law_2606 : decode cL_law 2606 = .ok (.ireturn, 1) := by decide +kernel
theorem dL_law_2607 : decode cL_law 2607 = .ok (.iload 5, 2) := by decide +kernel
theorem dL_law_2609 : decode cL_law 2609 = .ok (.ifCond .ne 15, 3) := by decide +kernel
theorem dL_law_2612 : decode cL_law 2612 = .ok (.aload_n 3, 1) := by decide +kernel
theorem dL_law_2613 : decode cL_law 2613 = .ok (.iconst 0, 1) := by decide +kernel
theorem dL_law_2614 : decode cL_law 2614 = .ok (.laload, 1) := by decide +kernel
theorem dL_law_2615 : decode cL_law 2615 = .ok (.iload 6, 2) := by decide +kernel
theorem dL_law_2617 : decode cL_law 2617 = .ok (.i2l, 1) := by decide +kernel
theorem dL_law_2618 : decode cL_law 2618 = .ok (.lcmp, 1) := by decide +kernel
theorem dL_law_2619 : decode cL_law 2619 = .ok (.ifCond .eq 5, 3) := by decide +kernel
theorem dL_law_2622 : decode cL_law 2622 = .ok (.iconst 0, 1) := by decide +kernel
theorem dL_law_2623 : decode cL_law 2623 = .ok (.ireturn, 1) := by decide +kernel
theorem dL_law_2624 : decode cL_law 2624 = .ok (.goto 932, 3) := by decide +kernel
theorem dL_law_2627 : decode cL_law 2627 = .ok (.aload_n 1, 1) := by decide +kernel
theorem dL_law_2628 : decode cL_law 2628 = .ok (.aload_n 0, 1) := by decide +kernel
theorem dL_law_2629 : decode cL_law 2629 = .ok (.iload 4, 2) := by decide +kernel
theorem dL_law_2631 : decode cL_law 2631 = .ok (.iconst 1, 1) := by decide +kernel
theorem dL_law_2632 : decode cL_law 2632 = .ok (.iadd, 1) := by decide +kernel
theorem dL_law_2633 : decode cL_law 2633 = .ok (.iaload, 1) := by decide +kernel
theorem dL_law_2634 : decode cL_law 2634 = .ok (.aload_n 3, 1) := by decide +kernel
theorem dL_law_2635 : decode cL_law 2635 = .ok (.invokestatic 352, 3) := by decide +kernel
theorem dL_law_2638 : decode cL_law 2638 = .ok (.istore 5, 2) := by decide +kernel
theorem dL_law_2640 : decode cL_law 2640 = .ok (.aload_n 2, 1) := by decide +kernel
theorem dL_law_2641 : decode cL_law 2641 = .ok (.aload_n 0, 1) := by decide +kernel
theorem dL_law_2642 : decode cL_law 2642 = .ok (.iload 4, 2) := by decide +kernel
theorem dL_law_2644 : decode cL_law 2644 = .ok (.iconst 1, 1) := by decide +kernel
theorem dL_law_2645 : decode cL_law 2645 = .ok (.iadd, 1) := by decide +kernel
theorem dL_law_2646 : decode cL_law 2646 = .ok (.iaload, 1) := by decide +kernel
theorem dL_law_2647 : decode cL_law 2647 = .ok (.invokevirtual 354, 3) := by decide +kernel
theorem dL_law_2650 : decode cL_law 2650 = .ok (.istore 6, 2) := by decide +kernel
theorem dL_law_2652 : decode cL_law 2652 = .ok (.aload_n 2, 1) := by decide +kernel
theorem dL_law_2653 : decode cL_law 2653 = .ok (.invokevirtual 190, 3) := by decide +kernel
theorem dL_law_2656 : decode cL_law 2656 = .ok (.iload 5, 2) := by decide +kernel
theorem dL_law_2658 : decode cL_law 2658 = .ok (.if_icmp .eq 5, 3) := by decide +kernel
theorem dL_law_2661 : decode cL_law 2661 = .ok (.iconst 0, 1) := by decide +kernel
theorem dL_law_2662 : decode cL_law 2662 = .ok (.ireturn, 1) := by decide +kernel
theorem dL_law_2663 : decode cL_law 2663 = .ok (.iload 5, 2) := by decide +kernel
theorem dL_law_2665 : decode cL_law 2665 = .ok (.ifCond .ne 15, 3) := by decide +kernel
theorem dL_law_2668 : decode cL_law 2668 = .ok (.aload_n 3, 1) := by decide +kernel
theorem dL_law_2669 : decode cL_law 2669 = .ok (.iconst 0, 1) := by decide +kernel
theorem dL_law_2670 : decode cL_law 2670 = .ok (.laload, 1) := by decide +kernel
theorem dL_law_2671 : decode cL_law 2671 = .ok (.iload 6, 2) := by decide +kernel
theorem dL_law_2673 : decode cL_law 2673 = .ok (.i2l, 1) := by decide +kernel
theorem dL_law_2674 : decode cL_law 2674 = .ok (.lcmp, 1) := by decide +kernel
theorem dL_law_2675 : decode cL_law 2675 = .ok (.ifCond .eq 5, 3) := by decide +kernel
theorem dL_law_2678 : decode cL_law 2678 = .ok (.iconst 0, 1) := by decide +kernel
theorem dL_law_2679 : decode cL_law 2679 = .ok (.ireturn, 1) := by decide +kernel
theorem dL_law_2680 : decode cL_law 2680 = .ok (.goto 876, 3) := by decide +kernel
theorem dL_law_2683 : decode cL_law 2683 = .ok (.aload_n 1, 1) := by decide +kernel
theorem dL_law_2684 : decode cL_law 2684 = .ok (.invokevirtual 355, 3) := by decide +kernel
theorem dL_law_2687 : decode cL_law 2687 = .ok (.aload_n 2, 1) := by decide +kernel
theorem dL_law_2688 : decode cL_law 2688 = .ok (.invokevirtual 358, 3) := by decide +kernel
theorem dL_law_2691 : decode cL_law 2691 = .ok (.if_icmp .eq 865, 3) := by decide +kernel
theorem dL_law_2694 : decode cL_law 2694 = .ok (.iconst 0, 1) := by decide +kernel
theorem dL_law_2695 : decode cL_law 2695 = .ok (.ireturn, 1) := by decide +kernel
theorem dL_law_2696 : decode cL_law 2696 = .ok (.aload_n 1, 1) := by decide +kernel
theorem dL_law_2697 : decode cL_law 2697 = .ok (.invokevirtual 359, 3) := by decide +kernel
theorem dL_law_2700 : decode cL_law 2700 = .ok (.aload_n 2, 1) := by decide +kernel
theorem dL_law_2701 : decode cL_law 2701 = .ok (.invokevirtual 362, 3) := by decide +kernel
theorem dL_law_2704 : decode cL_law 2704 = .ok (.if_icmp .eq 852, 3) := by decide +kernel
theorem dL_law_2707 : decode cL_law 2707 = .ok (.iconst 0, 1) := by decide +kernel
theorem dL_law_2708 : decode cL_law 2708 = .ok (.ireturn, 1) := by decide +kernel
theorem dL_law_2709 : decode cL_law 2709 = .ok (.aload_n 1, 1) := by decide +kernel
theorem dL_law_2710 : decode cL_law 2710 = .ok (.aload_n 0, 1) := by decide +kernel
theorem dL_law_2711 : decode cL_law 2711 = .ok (.iload 4, 2) := by decide +kernel
theorem dL_law_2713 : decode cL_law 2713 = .ok (.iconst 1, 1) := by decide +kernel
theorem dL_law_2714 : decode cL_law 2714 = .ok (.iadd, 1) := by decide +kernel
theorem dL_law_2715 : decode cL_law 2715 = .ok (.iaload, 1) := by decide +kernel
theorem dL_law_2716 : decode cL_law 2716 = .ok (.aload_n 0, 1) := by decide +kernel
theorem dL_law_2717 : decode cL_law 2717 = .ok (.iload 4, 2) := by decide +kernel
theorem dL_law_2719 : decode cL_law 2719 = .ok (.iconst 2, 1) := by decide +kernel
theorem dL_law_2720 : decode cL_law 2720 = .ok (.iadd, 1) := by decide +kernel
theorem dL_law_2721 : decode cL_law 2721 = .ok (.iaload, 1) := by decide +kernel
theorem dL_law_2722 : decode cL_law 2722 = .ok (.aload_n 3, 1) := by decide +kernel
theorem dL_law_2723 : decode cL_law 2723 = .ok (.invokestatic 363, 3) := by decide +kernel
theorem dL_law_2726 : decode cL_law 2726 = .ok (.istore 5, 2) := by decide +kernel
theorem dL_law_2728 : decode cL_law 2728 = .ok (.aload_n 2, 1) := by decide +kernel
theorem dL_law_2729 : decode cL_law 2729 = .ok (.aload_n 0, 1) := by decide +kernel
theorem dL_law_2730 : decode cL_law 2730 = .ok (.iload 4, 2) := by decide +kernel
theorem dL_law_2732 : decode cL_law 2732 = .ok (.iconst 1, 1) := by decide +kernel
theorem dL_law_2733 : decode cL_law 2733 = .ok (.iadd, 1) := by decide +kernel
theorem dL_law_2734 : decode cL_law 2734 = .ok (.iaload, 1) := by decide +kernel
theorem dL_law_2735 : decode cL_law 2735 = .ok (.aload_n 0, 1) := by decide +kernel
theorem dL_law_2736 : decode cL_law 2736 = .ok (.iload 4, 2) := by decide +kernel
theorem dL_law_2738 : decode cL_law 2738 = .ok (.iconst 2, 1) := by decide +kernel
theorem dL_law_2739 : decode cL_law 2739 = .ok (.iadd, 1) := by decide +kernel
theorem dL_law_2740 : decode cL_law 2740 = .ok (.iaload, 1) := by decide +kernel
theorem dL_law_2741 : decode cL_law 2741 = .ok (.invokevirtual 365, 3) := by decide +kernel
theorem dL_law_2744 : decode cL_law 2744 = .ok (.istore 6, 2) := by decide +kernel
theorem dL_law_2746 : decode cL_law 2746 = .ok (.aload_n 2, 1) := by decide +kernel
theorem dL_law_2747 : decode cL_law 2747 = .ok (.invokevirtual 190, 3) := by decide +kernel
theorem dL_law_2750 : decode cL_law 2750 = .ok (.iload 5, 2) := by decide +kernel
theorem dL_law_2752 : decode cL_law 2752 = .ok (.if_icmp .eq 5, 3) := by decide +kernel
theorem dL_law_2755 : decode cL_law 2755 = .ok (.iconst 0, 1) := by decide +kernel
theorem dL_law_2756 : decode cL_law 2756 = .ok (.ireturn, 1) := by decide +kernel
theorem dL_law_2757 : decode cL_law 2757 = .ok (.iload 5, 2) := by decide +kernel
theorem dL_law_2759 : decode cL_law 2759 = .ok (.ifCond .ne 15, 3) := by decide +kernel
theorem dL_law_2762 : decode cL_law 2762 = .ok (.aload_n 3, 1) := by decide +kernel
theorem dL_law_2763 : decode cL_law 2763 = .ok (.iconst 0, 1) := by decide +kernel
theorem dL_law_2764 : decode cL_law 2764 = .ok (.laload, 1) := by decide +kernel
theorem dL_law_2765 : decode cL_law 2765 = .ok (.iload 6, 2) := by decide +kernel
theorem dL_law_2767 : decode cL_law 2767 = .ok (.i2l, 1) := by decide +kernel
theorem dL_law_2768 : decode cL_law 2768 = .ok (.lcmp, 1) := by decide +kernel
theorem dL_law_2769 : decode cL_law 2769 = .ok (.ifCond .eq 5, 3) := by decide +kernel
theorem dL_law_2772 : decode cL_law 2772 = .ok (.iconst 0, 1) := by decide +kernel
theorem dL_law_2773 : decode cL_law 2773 = .ok (.ireturn, 1) := by decide +kernel
theorem dL_law_2774 : decode cL_law 2774 = .ok (.goto 782, 3) := by decide +kernel
theorem dL_law_2777 : decode cL_law 2777 = .ok (.aload_n 1, 1) := by decide +kernel
theorem dL_law_2778 : decode cL_law 2778 = .ok (.aload_n 0, 1) := by decide +kernel
theorem dL_law_2779 : decode cL_law 2779 = .ok (.iload 4, 2) := by decide +kernel
theorem dL_law_2781 : decode cL_law 2781 = .ok (.iconst 1, 1) := by decide +kernel
theorem dL_law_2782 : decode cL_law 2782 = .ok (.iadd, 1) := by decide +kernel
theorem dL_law_2783 : decode cL_law 2783 = .ok (.iaload, 1) := by decide +kernel
theorem dL_law_2784 : decode cL_law 2784 = .ok (.aload_n 3, 1) := by decide +kernel
theorem dL_law_2785 : decode cL_law 2785 = .ok (.invokestatic 366, 3) := by decide +kernel
theorem dL_law_2788 : decode cL_law 2788 = .ok (.istore 5, 2) := by decide +kernel
theorem dL_law_2790 : decode cL_law 2790 = .ok (.aload_n 2, 1) := by decide +kernel
theorem dL_law_2791 : decode cL_law 2791 = .ok (.aload_n 0, 1) := by decide +kernel
theorem dL_law_2792 : decode cL_law 2792 = .ok (.iload 4, 2) := by decide +kernel
theorem dL_law_2794 : decode cL_law 2794 = .ok (.iconst 1, 1) := by decide +kernel
theorem dL_law_2795 : decode cL_law 2795 = .ok (.iadd, 1) := by decide +kernel
theorem dL_law_2796 : decode cL_law 2796 = .ok (.iaload, 1) := by decide +kernel
theorem dL_law_2797 : decode cL_law 2797 = .ok (.invokevirtual 368, 3) := by decide +kernel
theorem dL_law_2800 : decode cL_law 2800 = .ok (.istore 6, 2) := by decide +kernel
theorem dL_law_2802 : decode cL_law 2802 = .ok (.aload_n 2, 1) := by decide +kernel
theorem dL_law_2803 : decode cL_law 2803 = .ok (.invokevirtual 190, 3) := by decide +kernel
theorem dL_law_2806 : decode cL_law 2806 = .ok (.iload 5, 2) := by decide +kernel
theorem dL_law_2808 : decode cL_law 2808 = .ok (.if_icmp .eq 5, 3) := by decide +kernel
theorem dL_law_2811 : decode cL_law 2811 = .ok (.iconst 0, 1) := by decide +kernel
theorem dL_law_2812 : decode cL_law 2812 = .ok (.ireturn, 1) := by decide +kernel
theorem dL_law_2813 : decode cL_law 2813 = .ok (.iload 5, 2) := by decide +kernel
theorem dL_law_2815 : decode cL_law 2815 = .ok (.ifCond .ne 15, 3) := by decide +kernel
theorem dL_law_2818 : decode cL_law 2818 = .ok (.aload_n 3, 1) := by decide +kernel
theorem dL_law_2819 : decode cL_law 2819 = .ok (.iconst 0, 1) := by decide +kernel
theorem dL_law_2820 : decode cL_law 2820 = .ok (.laload, 1) := by decide +kernel
theorem dL_law_2821 : decode cL_law 2821 = .ok (.iload 6, 2) := by decide +kernel
theorem dL_law_2823 : decode cL_law 2823 = .ok (.i2l, 1) := by decide +kernel
theorem dL_law_2824 : decode cL_law 2824 = .ok (.lcmp, 1) := by decide +kernel
theorem dL_law_2825 : decode cL_law 2825 = .ok (.ifCond .eq 5, 3) := by decide +kernel
theorem dL_law_2828 : decode cL_law 2828 = .ok (.iconst 0, 1) := by decide +kernel
theorem dL_law_2829 : decode cL_law 2829 = .ok (.ireturn, 1) := by decide +kernel
theorem dL_law_2830 : decode cL_law 2830 = .ok (.goto 726, 3) := by decide +kernel
theorem dL_law_2833 : decode cL_law 2833 = .ok (.aload_n 1, 1) := by decide +kernel
theorem dL_law_2834 : decode cL_law 2834 = .ok (.aload_n 0, 1) := by decide +kernel
theorem dL_law_2835 : decode cL_law 2835 = .ok (.iload 4, 2) := by decide +kernel
theorem dL_law_2837 : decode cL_law 2837 = .ok (.iconst 1, 1) := by decide +kernel
theorem dL_law_2838 : decode cL_law 2838 = .ok (.iadd, 1) := by decide +kernel
theorem dL_law_2839 : decode cL_law 2839 = .ok (.iaload, 1) := by decide +kernel
theorem dL_law_2840 : decode cL_law 2840 = .ok (.aload_n 3, 1) := by decide +kernel
theorem dL_law_2841 : decode cL_law 2841 = .ok (.invokestatic 369, 3) := by decide +kernel
theorem dL_law_2844 : decode cL_law 2844 = .ok (.istore 5, 2) := by decide +kernel
theorem dL_law_2846 : decode cL_law 2846 = .ok (.aload_n 2, 1) := by decide +kernel
theorem dL_law_2847 : decode cL_law 2847 = .ok (.aload_n 0, 1) := by decide +kernel
theorem dL_law_2848 : decode cL_law 2848 = .ok (.iload 4, 2) := by decide +kernel
theorem dL_law_2850 : decode cL_law 2850 = .ok (.iconst 1, 1) := by decide +kernel
theorem dL_law_2851 : decode cL_law 2851 = .ok (.iadd, 1) := by decide +kernel
theorem dL_law_2852 : decode cL_law 2852 = .ok (.iaload, 1) := by decide +kernel
theorem dL_law_2853 : decode cL_law 2853 = .ok (.invokevirtual 371, 3) := by decide +kernel
theorem dL_law_2856 : decode cL_law 2856 = .ok (.istore 6, 2) := by decide +kernel
theorem dL_law_2858 : decode cL_law 2858 = .ok (.aload_n 2, 1) := by decide +kernel
theorem dL_law_2859 : decode cL_law 2859 = .ok (.invokevirtual 190, 3) := by decide +kernel
theorem dL_law_2862 : decode cL_law 2862 = .ok (.iload 5, 2) := by decide +kernel
theorem dL_law_2864 : decode cL_law 2864 = .ok (.if_icmp .eq 5, 3) := by decide +kernel
theorem dL_law_2867 : decode cL_law 2867 = .ok (.iconst 0, 1) := by decide +kernel
theorem dL_law_2868 : decode cL_law 2868 = .ok (.ireturn, 1) := by decide +kernel
theorem dL_law_2869 : decode cL_law 2869 = .ok (.iload 5, 2) := by decide +kernel
theorem dL_law_2871 : decode cL_law 2871 = .ok (.ifCond .ne 22, 3) := by decide +kernel
theorem dL_law_2874 : decode cL_law 2874 = .ok (.aload_n 3, 1) := by decide +kernel
theorem dL_law_2875 : decode cL_law 2875 = .ok (.iconst 0, 1) := by decide +kernel
theorem dL_law_2876 : decode cL_law 2876 = .ok (.laload, 1) := by decide +kernel
theorem dL_law_2877 : decode cL_law 2877 = .ok (.iload 6, 2) := by decide +kernel
theorem dL_law_2879 : decode cL_law 2879 = .ok (.ifCond .eq 7, 3) := by decide +kernel
theorem dL_law_2882 : decode cL_law 2882 = .ok (.lconst 1, 1) := by decide +kernel
theorem dL_law_2883 : decode cL_law 2883 = .ok (.goto 4, 3) := by decide +kernel
theorem dL_law_2886 : decode cL_law 2886 = .ok (.lconst 0, 1) := by decide +kernel
theorem dL_law_2887 : decode cL_law 2887 = .ok (.lcmp, 1) := by decide +kernel
theorem dL_law_2888 : decode cL_law 2888 = .ok (.ifCond .eq 5, 3) := by decide +kernel
theorem dL_law_2891 : decode cL_law 2891 = .ok (.iconst 0, 1) := by decide +kernel
theorem dL_law_2892 : decode cL_law 2892 = .ok (.ireturn, 1) := by decide +kernel
theorem dL_law_2893 : decode cL_law 2893 = .ok (.goto 663, 3) := by decide +kernel
theorem dL_law_2896 : decode cL_law 2896 = .ok (.aload_n 1, 1) := by decide +kernel
theorem dL_law_2897 : decode cL_law 2897 = .ok (.aload_n 0, 1) := by decide +kernel
theorem dL_law_2898 : decode cL_law 2898 = .ok (.iload 4, 2) := by decide +kernel
theorem dL_law_2900 : decode cL_law 2900 = .ok (.iconst 1, 1) := by decide +kernel
theorem dL_law_2901 : decode cL_law 2901 = .ok (.iadd, 1) := by decide +kernel
theorem dL_law_2902 : decode cL_law 2902 = .ok (.iaload, 1) := by decide +kernel
theorem dL_law_2903 : decode cL_law 2903 = .ok (.aload_n 3, 1) := by decide +kernel
theorem dL_law_2904 : decode cL_law 2904 = .ok (.invokestatic 372, 3) := by decide +kernel
theorem dL_law_2907 : decode cL_law 2907 = .ok (.istore 5, 2) := by decide +kernel
theorem dL_law_2909 : decode cL_law 2909 = .ok (.aload_n 2, 1) := by decide +kernel
theorem dL_law_2910 : decode cL_law 2910 = .ok (.aload_n 0, 1) := by decide +kernel
theorem dL_law_2911 : decode cL_law 2911 = .ok (.iload 4, 2) := by decide +kernel
theorem dL_law_2913 : decode cL_law 2913 = .ok (.iconst 1, 1) := by decide +kernel
theorem dL_law_2914 : decode cL_law 2914 = .ok (.iadd, 1) := by decide +kernel
theorem dL_law_2915 : decode cL_law 2915 = .ok (.iaload, 1) := by decide +kernel
theorem dL_law_2916 : decode cL_law 2916 = .ok (.invokevirtual 374, 3) := by decide +kernel
theorem dL_law_2919 : decode cL_law 2919 = .ok (.istore 6, 2) := by decide +kernel
theorem dL_law_2921 : decode cL_law 2921 = .ok (.aload_n 2, 1) := by decide +kernel
theorem dL_law_2922 : decode cL_law 2922 = .ok (.invokevirtual 190, 3) := by decide +kernel
theorem dL_law_2925 : decode cL_law 2925 = .ok (.iload 5, 2) := by decide +kernel
theorem dL_law_2927 : decode cL_law 2927 = .ok (.if_icmp .eq 5, 3) := by decide +kernel
theorem dL_law_2930 : decode cL_law 2930 = .ok (.iconst 0, 1) := by decide +kernel
theorem dL_law_2931 : decode cL_law 2931 = .ok (.ireturn, 1) := by decide +kernel
theorem dL_law_2932 : decode cL_law 2932 = .ok (.iload 5, 2) := by decide +kernel
theorem dL_law_2934 : decode cL_law 2934 = .ok (.ifCond .ne 15, 3) := by decide +kernel
theorem dL_law_2937 : decode cL_law 2937 = .ok (.aload_n 3, 1) := by decide +kernel
theorem dL_law_2938 : decode cL_law 2938 = .ok (.iconst 0, 1) := by decide +kernel
theorem dL_law_2939 : decode cL_law 2939 = .ok (.laload, 1) := by decide +kernel
theorem dL_law_2940 : decode cL_law 2940 = .ok (.iload 6, 2) := by decide +kernel
theorem dL_law_2942 : decode cL_law 2942 = .ok (.i2l, 1) := by decide +kernel
theorem dL_law_2943 : decode cL_law 2943 = .ok (.lcmp, 1) := by decide +kernel
theorem dL_law_2944 : decode cL_law 2944 = .ok (.ifCond .eq 5, 3) := by decide +kernel
theorem dL_law_2947 : decode cL_law 2947 = .ok (.iconst 0, 1) := by decide +kernel
theorem dL_law_2948 : decode cL_law 2948 = .ok (.ireturn, 1) := by decide +kernel
theorem dL_law_2949 : decode cL_law 2949 = .ok (.goto 607, 3) := by decide +kernel
theorem dL_law_2952 : decode cL_law 2952 = .ok (.aload_n 1, 1) := by decide +kernel
theorem dL_law_2953 : decode cL_law 2953 = .ok (.aload_n 0, 1) := by decide +kernel
theorem dL_law_2954 : decode cL_law 2954 = .ok (.iload 4, 2) := by decide +kernel
theorem dL_law_2956 : decode cL_law 2956 = .ok (.iconst 1, 1) := by decide +kernel
theorem dL_law_2957 : decode cL_law 2957 = .ok (.iadd, 1) := by decide +kernel
theorem dL_law_2958 : decode cL_law 2958 = .ok (.iaload, 1) := by decide +kernel
theorem dL_law_2959 : decode cL_law 2959 = .ok (.aload_n 3, 1) := by decide +kernel
theorem dL_law_2960 : decode cL_law 2960 = .ok (.invokestatic 375, 3) := by decide +kernel
theorem dL_law_2963 : decode cL_law 2963 = .ok (.istore 5, 2) := by decide +kernel
theorem dL_law_2965 : decode cL_law 2965 = .ok (.aload_n 2, 1) := by decide +kernel
theorem dL_law_2966 : decode cL_law 2966 = .ok (.aload_n 0, 1) := by decide +kernel
theorem dL_law_2967 : decode cL_law 2967 = .ok (.iload 4, 2) := by decide +kernel
theorem dL_law_2969 : decode cL_law 2969 = .ok (.iconst 1, 1) := by decide +kernel
theorem dL_law_2970 : decode cL_law 2970 = .ok (.iadd, 1) := by decide +kernel
theorem dL_law_2971 : decode cL_law 2971 = .ok (.iaload, 1) := by decide +kernel
theorem dL_law_2972 : decode cL_law 2972 = .ok (.invokevirtual 377, 3) := by decide +kernel
theorem dL_law_2975 : decode cL_law 2975 = .ok (.istore 6, 2) := by decide +kernel
theorem dL_law_2977 : decode cL_law 2977 = .ok (.aload_n 2, 1) := by decide +kernel
theorem dL_law_2978 : decode cL_law 2978 = .ok (.invokevirtual 190, 3) := by decide +kernel
theorem dL_law_2981 : decode cL_law 2981 = .ok (.iload 5, 2) := by decide +kernel
theorem dL_law_2983 : decode cL_law 2983 = .ok (.if_icmp .eq 5, 3) := by decide +kernel
theorem dL_law_2986 : decode cL_law 2986 = .ok (.iconst 0, 1) := by decide +kernel
theorem dL_law_2987 : decode cL_law 2987 = .ok (.ireturn, 1) := by decide +kernel
theorem dL_law_2988 : decode cL_law 2988 = .ok (.iload 5, 2) := by decide +kernel
theorem dL_law_2990 : decode cL_law 2990 = .ok (.ifCond .ne 15, 3) := by decide +kernel
theorem dL_law_2993 : decode cL_law 2993 = .ok (.aload_n 3, 1) := by decide +kernel
theorem dL_law_2994 : decode cL_law 2994 = .ok (.iconst 0, 1) := by decide +kernel
theorem dL_law_2995 : decode cL_law 2995 = .ok (.laload, 1) := by decide +kernel
theorem dL_law_2996 : decode cL_law 2996 = .ok (.iload 6, 2) := by decide +kernel
theorem dL_law_2998 : decode cL_law 2998 = .ok (.i2l, 1) := by decide +kernel
theorem dL_law_2999 : decode cL_law 2999 = .ok (.lcmp, 1) := by decide +kernel
theorem dL_law_3000 : decode cL_law 3000 = .ok (.ifCond .eq 5, 3) := by decide +kernel
theorem dL_law_3003 : decode cL_law 3003 = .ok (.iconst 0, 1) := by decide +kernel
theorem dL_law_3004 : decode cL_law 3004 = .ok (.ireturn, 1) := by decide +kernel
theorem dL_law_3005 : decode cL_law 3005 = .ok (.goto 551, 3) := by decide +kernel
theorem dL_law_3008 : decode cL_law 3008 = .ok (.aload_n 1, 1) := by decide +kernel
theorem dL_law_3009 : decode cL_law 3009 = .ok (.aload_n 0, 1) := by decide +kernel
theorem dL_law_3010 : decode cL_law 3010 = .ok (.iload 4, 2) := by decide +kernel
theorem dL_law_3012 : decode cL_law 3012 = .ok (.iconst 1, 1) := by decide +kernel
theorem dL_law_3013 : decode cL_law 3013 = .ok (.iadd, 1) := by decide +kernel
theorem dL_law_3014 : decode cL_law 3014 = .ok (.iaload, 1) := by decide +kernel
theorem dL_law_3015 : decode cL_law 3015 = .ok (.aload_n 3, 1) := by decide +kernel
theorem dL_law_3016 : decode cL_law 3016 = .ok (.invokestatic 378, 3) := by decide +kernel
theorem dL_law_3019 : decode cL_law 3019 = .ok (.istore 5, 2) := by decide +kernel
theorem dL_law_3021 : decode cL_law 3021 = .ok (.aload_n 2, 1) := by decide +kernel
theorem dL_law_3022 : decode cL_law 3022 = .ok (.aload_n 0, 1) := by decide +kernel
theorem dL_law_3023 : decode cL_law 3023 = .ok (.iload 4, 2) := by decide +kernel
theorem dL_law_3025 : decode cL_law 3025 = .ok (.iconst 1, 1) := by decide +kernel
theorem dL_law_3026 : decode cL_law 3026 = .ok (.iadd, 1) := by decide +kernel
theorem dL_law_3027 : decode cL_law 3027 = .ok (.iaload, 1) := by decide +kernel
theorem dL_law_3028 : decode cL_law 3028 = .ok (.invokevirtual 380, 3) := by decide +kernel
theorem dL_law_3031 : decode cL_law 3031 = .ok (.istore 6, 2) := by decide +kernel
theorem dL_law_3033 : decode cL_law 3033 = .ok (.aload_n 2, 1) := by decide +kernel
theorem dL_law_3034 : decode cL_law 3034 = .ok (.invokevirtual 190, 3) := by decide +kernel
theorem dL_law_3037 : decode cL_law 3037 = .ok (.iload 5, 2) := by decide +kernel
theorem dL_law_3039 : decode cL_law 3039 = .ok (.if_icmp .eq 5, 3) := by decide +kernel
theorem dL_law_3042 : decode cL_law 3042 = .ok (.iconst 0, 1) := by decide +kernel
theorem dL_law_3043 : decode cL_law 3043 = .ok (.ireturn, 1) := by decide +kernel
theorem dL_law_3044 : decode cL_law 3044 = .ok (.iload 5, 2) := by decide +kernel
theorem dL_law_3046 : decode cL_law 3046 = .ok (.ifCond .ne 15, 3) := by decide +kernel
theorem dL_law_3049 : decode cL_law 3049 = .ok (.aload_n 3, 1) := by decide +kernel
theorem dL_law_3050 : decode cL_law 3050 = .ok (.iconst 0, 1) := by decide +kernel
theorem dL_law_3051 : decode cL_law 3051 = .ok (.laload, 1) := by decide +kernel
theorem dL_law_3052 : decode cL_law 3052 = .ok (.iload 6, 2) := by decide +kernel
theorem dL_law_3054 : decode cL_law 3054 = .ok (.i2l, 1) := by decide +kernel
theorem dL_law_3055 : decode cL_law 3055 = .ok (.lcmp, 1) := by decide +kernel
theorem dL_law_3056 : decode cL_law 3056 = .ok (.ifCond .eq 5, 3) := by decide +kernel
theorem dL_law_3059 : decode cL_law 3059 = .ok (.iconst 0, 1) := by decide +kernel
theorem dL_law_3060 : decode cL_law 3060 = .ok (.ireturn, 1) := by decide +kernel
theorem dL_law_3061 : decode cL_law 3061 = .ok (.goto 495, 3) := by decide +kernel
theorem dL_law_3064 : decode cL_law 3064 = .ok (.aload_n 1, 1) := by decide +kernel
theorem dL_law_3065 : decode cL_law 3065 = .ok (.aload_n 0, 1) := by decide +kernel
theorem dL_law_3066 : decode cL_law 3066 = .ok (.iload 4, 2) := by decide +kernel
theorem dL_law_3068 : decode cL_law 3068 = .ok (.iconst 1, 1) := by decide +kernel
theorem dL_law_3069 : decode cL_law 3069 = .ok (.iadd, 1) := by decide +kernel
theorem dL_law_3070 : decode cL_law 3070 = .ok (.iaload, 1) := by decide +kernel
theorem dL_law_3071 : decode cL_law 3071 = .ok (.aload_n 3, 1) := by decide +kernel
theorem dL_law_3072 : decode cL_law 3072 = .ok (.invokestatic 381, 3) := by decide +kernel
theorem dL_law_3075 : decode cL_law 3075 = .ok (.istore 5, 2) := by decide +kernel
theorem dL_law_3077 : decode cL_law 3077 = .ok (.aload_n 2, 1) := by decide +kernel
theorem dL_law_3078 : decode cL_law 3078 = .ok (.aload_n 0, 1) := by decide +kernel
theorem dL_law_3079 : decode cL_law 3079 = .ok (.iload 4, 2) := by decide +kernel
theorem dL_law_3081 : decode cL_law 3081 = .ok (.iconst 1, 1) := by decide +kernel
theorem dL_law_3082 : decode cL_law 3082 = .ok (.iadd, 1) := by decide +kernel
theorem dL_law_3083 : decode cL_law 3083 = .ok (.iaload, 1) := by decide +kernel
theorem dL_law_3084 : decode cL_law 3084 = .ok (.invokevirtual 383, 3) := by decide +kernel
theorem dL_law_3087 : decode cL_law 3087 = .ok (.istore 6, 2) := by decide +kernel
theorem dL_law_3089 : decode cL_law 3089 = .ok (.aload_n 2, 1) := by decide +kernel
theorem dL_law_3090 : decode cL_law 3090 = .ok (.invokevirtual 190, 3) := by decide +kernel
theorem dL_law_3093 : decode cL_law 3093 = .ok (.iload 5, 2) := by decide +kernel
theorem dL_law_3095 : decode cL_law 3095 = .ok (.if_icmp .eq 5, 3) := by decide +kernel
theorem dL_law_3098 : decode cL_law 3098 = .ok (.iconst 0, 1) := by decide +kernel
theorem dL_law_3099 : decode cL_law 3099 = .ok (.ireturn, 1) := by decide +kernel
theorem dL_law_3100 : decode cL_law 3100 = .ok (.iload 5, 2) := by decide +kernel
theorem dL_law_3102 : decode cL_law 3102 = .ok (.ifCond .ne 15, 3) := by decide +kernel
theorem dL_law_3105 : decode cL_law 3105 = .ok (.aload_n 3, 1) := by decide +kernel
theorem dL_law_3106 : decode cL_law 3106 = .ok (.iconst 0, 1) := by decide +kernel
theorem dL_law_3107 : decode cL_law 3107 = .ok (.laload, 1) := by decide +kernel
theorem dL_law_3108 : decode cL_law 3108 = .ok (.iload 6, 2) := by decide +kernel
theorem dL_law_3110 : decode cL_law 3110 = .ok (.i2l, 1) := by decide +kernel
theorem dL_law_3111 : decode cL_law 3111 = .ok (.lcmp, 1) := by decide +kernel
theorem dL_law_3112 : decode cL_law 3112 = .ok (.ifCond .eq 5, 3) := by decide +kernel
theorem dL_law_3115 : decode cL_law 3115 = .ok (.iconst 0, 1) := by decide +kernel
theorem dL_law_3116 : decode cL_law 3116 = .ok (.ireturn, 1) := by decide +kernel
theorem dL_law_3117 : decode cL_law 3117 = .ok (.goto 439, 3) := by decide +kernel
theorem dL_law_3120 : decode cL_law 3120 = .ok (.aload_n 1, 1) := by decide +kernel
theorem dL_law_3121 : decode cL_law 3121 = .ok (.aload_n 0, 1) := by decide +kernel
theorem dL_law_3122 : decode cL_law 3122 = .ok (.iload 4, 2) := by decide +kernel
theorem dL_law_3124 : decode cL_law 3124 = .ok (.iconst 1, 1) := by decide +kernel
theorem dL_law_3125 : decode cL_law 3125 = .ok (.iadd, 1) := by decide +kernel
theorem dL_law_3126 : decode cL_law 3126 = .ok (.iaload, 1) := by decide +kernel
theorem dL_law_3127 : decode cL_law 3127 = .ok (.aload_n 3, 1) := by decide +kernel
theorem dL_law_3128 : decode cL_law 3128 = .ok (.invokestatic 384, 3) := by decide +kernel
theorem dL_law_3131 : decode cL_law 3131 = .ok (.istore 5, 2) := by decide +kernel
theorem dL_law_3133 : decode cL_law 3133 = .ok (.aload_n 2, 1) := by decide +kernel
theorem dL_law_3134 : decode cL_law 3134 = .ok (.aload_n 0, 1) := by decide +kernel
theorem dL_law_3135 : decode cL_law 3135 = .ok (.iload 4, 2) := by decide +kernel
theorem dL_law_3137 : decode cL_law 3137 = .ok (.iconst 1, 1) := by decide +kernel
theorem dL_law_3138 : decode cL_law 3138 = .ok (.iadd, 1) := by decide +kernel
theorem dL_law_3139 : decode cL_law 3139 = .ok (.iaload, 1) := by decide +kernel
theorem dL_law_3140 : decode cL_law 3140 = .ok (.invokevirtual 386, 3) := by decide +kernel
theorem dL_law_3143 : decode cL_law 3143 = .ok (.istore 6, 2) := by decide +kernel
theorem dL_law_3145 : decode cL_law 3145 = .ok (.aload_n 2, 1) := by decide +kernel
theorem dL_law_3146 : decode cL_law 3146 = .ok (.invokevirtual 190, 3) := by decide +kernel
theorem dL_law_3149 : decode cL_law 3149 = .ok (.iload 5, 2) := by decide +kernel
theorem dL_law_3151 : decode cL_law 3151 = .ok (.if_icmp .eq 5, 3) := by decide +kernel
theorem dL_law_3154 : decode cL_law 3154 = .ok (.iconst 0, 1) := by decide +kernel
theorem dL_law_3155 : decode cL_law 3155 = .ok (.ireturn, 1) := by decide +kernel
theorem dL_law_3156 : decode cL_law 3156 = .ok (.iload 5, 2) := by decide +kernel
theorem dL_law_3158 : decode cL_law 3158 = .ok (.ifCond .ne 15, 3) := by decide +kernel
theorem dL_law_3161 : decode cL_law 3161 = .ok (.aload_n 3, 1) := by decide +kernel
theorem dL_law_3162 : decode cL_law 3162 = .ok (.iconst 0, 1) := by decide +kernel
theorem dL_law_3163 : decode cL_law 3163 = .ok (.laload, 1) := by decide +kernel
theorem dL_law_3164 : decode cL_law 3164 = .ok (.iload 6, 2) := by decide +kernel
theorem dL_law_3166 : decode cL_law 3166 = .ok (.i2l, 1) := by decide +kernel
theorem dL_law_3167 : decode cL_law 3167 = .ok (.lcmp, 1) := by decide +kernel
theorem dL_law_3168 : decode cL_law 3168 = .ok (.ifCond .eq 5, 3) := by decide +kernel
theorem dL_law_3171 : decode cL_law 3171 = .ok (.iconst 0, 1) := by decide +kernel
theorem dL_law_3172 : decode cL_law 3172 = .ok (.ireturn, 1) := by decide +kernel
theorem dL_law_3173 : decode cL_law 3173 = .ok (.goto 383, 3) := by decide +kernel
theorem dL_law_3176 : decode cL_law 3176 = .ok (.aload_n 1, 1) := by decide +kernel
theorem dL_law_3177 : decode cL_law 3177 = .ok (.aload_n 3, 1) := by decide +kernel
theorem dL_law_3178 : decode cL_law 3178 = .ok (.invokestatic 387, 3) := by decide +kernel
theorem dL_law_3181 : decode cL_law 3181 = .ok (.istore 5, 2) := by decide +kernel
theorem dL_law_3183 : decode cL_law 3183 = .ok (.aload_n 2, 1) := by decide +kernel
theorem dL_law_3184 : decode cL_law 3184 = .ok (.invokevirtual 389, 3) := by decide +kernel
theorem dL_law_3187 : decode cL_law 3187 = .ok (.istore 6, 2) := by decide +kernel
theorem dL_law_3189 : decode cL_law 3189 = .ok (.aload_n 2, 1) := by decide +kernel
theorem dL_law_3190 : decode cL_law 3190 = .ok (.invokevirtual 190, 3) := by decide +kernel
theorem dL_law_3193 : decode cL_law 3193 = .ok (.iload 5, 2) := by decide +kernel
theorem dL_law_3195 : decode cL_law 3195 = .ok (.if_icmp .eq 5, 3) := by decide +kernel
theorem dL_law_3198 : decode cL_law 3198 = .ok (.iconst 0, 1) := by decide +kernel
theorem dL_law_3199 : decode cL_law 3199 = .ok (.ireturn, 1) := by decide +kernel
theorem dL_law_3200 : decode cL_law 3200 = .ok (.iload 5, 2) := by decide +kernel
theorem dL_law_3202 : decode cL_law 3202 = .ok (.ifCond .ne 15, 3) := by decide +kernel
theorem dL_law_3205 : decode cL_law 3205 = .ok (.aload_n 3, 1) := by decide +kernel
theorem dL_law_3206 : decode cL_law 3206 = .ok (.iconst 0, 1) := by decide +kernel
theorem dL_law_3207 : decode cL_law 3207 = .ok (.laload, 1) := by decide +kernel
theorem dL_law_3208 : decode cL_law 3208 = .ok (.iload 6, 2) := by decide +kernel
theorem dL_law_3210 : decode cL_law 3210 = .ok (.i2l, 1) := by decide +kernel
theorem dL_law_3211 : decode cL_law 3211 = .ok (.lcmp, 1) := by decide +kernel
theorem dL_law_3212 : decode cL_law 3212 = .ok (.ifCond .eq 5, 3) := by decide +kernel
theorem dL_law_3215 : decode cL_law 3215 = .ok (.iconst 0, 1) := by decide +kernel
theorem dL_law_3216 : decode cL_law 3216 = .ok (.ireturn, 1) := by decide +kernel
theorem dL_law_3217 : decode cL_law 3217 = .ok (.goto 339, 3) := by decide +kernel
theorem dL_law_3220 : decode cL_law 3220 = .ok (.aload_n 1, 1) := by decide +kernel
theorem dL_law_3221 : decode cL_law 3221 = .ok (.aload_n 3, 1) := by decide +kernel
theorem dL_law_3222 : decode cL_law 3222 = .ok (.invokestatic 390, 3) := by decide +kernel
theorem dL_law_3225 : decode cL_law 3225 = .ok (.istore 5, 2) := by decide +kernel
theorem dL_law_3227 : decode cL_law 3227 = .ok (.aload_n 2, 1) := by decide +kernel
theorem dL_law_3228 : decode cL_law 3228 = .ok (.invokevirtual 392, 3) := by decide +kernel
theorem dL_law_3231 : decode cL_law 3231 = .ok (.istore 6, 2) := by decide +kernel
theorem dL_law_3233 : decode cL_law 3233 = .ok (.aload_n 2, 1) := by decide +kernel
theorem dL_law_3234 : decode cL_law 3234 = .ok (.invokevirtual 190, 3) := by decide +kernel
theorem dL_law_3237 : decode cL_law 3237 = .ok (.iload 5, 2) := by decide +kernel
theorem dL_law_3239 : decode cL_law 3239 = .ok (.if_icmp .eq 5, 3) := by decide +kernel
theorem dL_law_3242 : decode cL_law 3242 = .ok (.iconst 0, 1) := by decide +kernel
theorem dL_law_3243 : decode cL_law 3243 = .ok (.ireturn, 1) := by decide +kernel
theorem dL_law_3244 : decode cL_law 3244 = .ok (.iload 5, 2) := by decide +kernel
theorem dL_law_3246 : decode cL_law 3246 = .ok (.ifCond .ne 15, 3) := by decide +kernel
theorem dL_law_3249 : decode cL_law 3249 = .ok (.aload_n 3, 1) := by decide +kernel
theorem dL_law_3250 : decode cL_law 3250 = .ok (.iconst 0, 1) := by decide +kernel
theorem dL_law_3251 : decode cL_law 3251 = .ok (.laload, 1) := by decide +kernel
theorem dL_law_3252 : decode cL_law 3252 = .ok (.iload 6, 2) := by decide +kernel
theorem dL_law_3254 : decode cL_law 3254 = .ok (.i2l, 1) := by decide +kernel
theorem dL_law_3255 : decode cL_law 3255 = .ok (.lcmp, 1) := by decide +kernel
theorem dL_law_3256 : decode cL_law 3256 = .ok (.ifCond .eq 5, 3) := by decide +kernel
theorem dL_law_3259 : decode cL_law 3259 = .ok (.iconst 0, 1) := by decide +kernel
theorem dL_law_3260 : decode cL_law 3260 = .ok (.ireturn, 1) := by decide +kernel
theorem dL_law_3261 : decode cL_law 3261 = .ok (.goto 295, 3) := by decide +kernel
theorem dL_law_3264 : decode cL_law 3264 = .ok (.aload_n 1, 1) := by decide +kernel
theorem dL_law_3265 : decode cL_law 3265 = .ok (.invokevirtual 393, 3) := by decide +kernel
theorem dL_law_3268 : decode cL_law 3268 = .ok (.aload_n 2, 1) := by decide +kernel
theorem dL_law_3269 : decode cL_law 3269 = .ok (.invokevirtual 396, 3) := by decide +kernel
theorem dL_law_3272 : decode cL_law 3272 = .ok (.if_icmp .eq 284, 3) := by decide +kernel
theorem dL_law_3275 : decode cL_law 3275 = .ok (.iconst 0, 1) := by decide +kernel
theorem dL_law_3276 : decode cL_law 3276 = .ok (.ireturn, 1) := by decide +kernel
theorem dL_law_3277 : decode cL_law 3277 = .ok (.aload_n 1, 1) := by decide +kernel
theorem dL_law_3278 : decode cL_law 3278 = .ok (.invokevirtual 397, 3) := by decide +kernel
theorem dL_law_3281 : decode cL_law 3281 = .ok (.aload_n 2, 1) := by decide +kernel
theorem dL_law_3282 : decode cL_law 3282 = .ok (.invokevirtual 400, 3) := by decide +kernel
theorem dL_law_3285 : decode cL_law 3285 = .ok (.if_icmp .eq 271, 3) := by decide +kernel
theorem dL_law_3288 : decode cL_law 3288 = .ok (.iconst 0, 1) := by decide +kernel
theorem dL_law_3289 : decode cL_law 3289 = .ok (.ireturn, 1) := by decide +kernel
theorem dL_law_3290 : decode cL_law 3290 = .ok (.aload_n 1, 1) := by decide +kernel
theorem dL_law_3291 : decode cL_law 3291 = .ok (.invokevirtual 401, 3) := by decide +kernel
theorem dL_law_3294 : decode cL_law 3294 = .ok (.aload_n 2, 1) := by decide +kernel
theorem dL_law_3295 : decode cL_law 3295 = .ok (.invokevirtual 404, 3) := by decide +kernel
theorem dL_law_3298 : decode cL_law 3298 = .ok (.if_icmp .eq 258, 3) := by decide +kernel
theorem dL_law_3301 : decode cL_law 3301 = .ok (.iconst 0, 1) := by decide +kernel
theorem dL_law_3302 : decode cL_law 3302 = .ok (.ireturn, 1) := by decide +kernel
theorem dL_law_3303 : decode cL_law 3303 = .ok (.aload_n 1, 1) := by decide +kernel
theorem dL_law_3304 : decode cL_law 3304 = .ok (.aload_n 0, 1) := by decide +kernel
theorem dL_law_3305 : decode cL_law 3305 = .ok (.iload 4, 2) := by decide +kernel
theorem dL_law_3307 : decode cL_law 3307 = .ok (.iconst 1, 1) := by decide +kernel
theorem dL_law_3308 : decode cL_law 3308 = .ok (.iadd, 1) := by decide +kernel
theorem dL_law_3309 : decode cL_law 3309 = .ok (.iaload, 1) := by decide +kernel
theorem dL_law_3310 : decode cL_law 3310 = .ok (.aload_n 3, 1) := by decide +kernel
theorem dL_law_3311 : decode cL_law 3311 = .ok (.invokestatic 405, 3) := by decide +kernel
theorem dL_law_3314 : decode cL_law 3314 = .ok (.istore 5, 2) := by decide +kernel
theorem dL_law_3316 : decode cL_law 3316 = .ok (.aload_n 2, 1) := by decide +kernel
theorem dL_law_3317 : decode cL_law 3317 = .ok (.aload_n 0, 1) := by decide +kernel
theorem dL_law_3318 : decode cL_law 3318 = .ok (.iload 4, 2) := by decide +kernel
theorem dL_law_3320 : decode cL_law 3320 = .ok (.iconst 1, 1) := by decide +kernel
theorem dL_law_3321 : decode cL_law 3321 = .ok (.iadd, 1) := by decide +kernel
theorem dL_law_3322 : decode cL_law 3322 = .ok (.iaload, 1) := by decide +kernel
theorem dL_law_3323 : decode cL_law 3323 = .ok (.invokevirtual 407, 3) := by decide +kernel
theorem dL_law_3326 : decode cL_law 3326 = .ok (.istore 6, 2) := by decide +kernel
theorem dL_law_3328 : decode cL_law 3328 = .ok (.aload_n 2, 1) := by decide +kernel
theorem dL_law_3329 : decode cL_law 3329 = .ok (.invokevirtual 190, 3) := by decide +kernel
theorem dL_law_3332 : decode cL_law 3332 = .ok (.iload 5, 2) := by decide +kernel
theorem dL_law_3334 : decode cL_law 3334 = .ok (.if_icmp .eq 5, 3) := by decide +kernel
theorem dL_law_3337 : decode cL_law 3337 = .ok (.iconst 0, 1) := by decide +kernel
theorem dL_law_3338 : decode cL_law 3338 = .ok (.ireturn, 1) := by decide +kernel
theorem dL_law_3339 : decode cL_law 3339 = .ok (.iload 5, 2) := by decide +kernel
theorem dL_law_3341 : decode cL_law 3341 = .ok (.ifCond .ne 15, 3) := by decide +kernel
theorem dL_law_3344 : decode cL_law 3344 = .ok (.aload_n 3, 1) := by decide +kernel
theorem dL_law_3345 : decode cL_law 3345 = .ok (.iconst 0, 1) := by decide +kernel
theorem dL_law_3346 : decode cL_law 3346 = .ok (.laload, 1) := by decide +kernel
theorem dL_law_3347 : decode cL_law 3347 = .ok (.iload 6, 2) := by decide +kernel
theorem dL_law_3349 : decode cL_law 3349 = .ok (.i2l, 1) := by decide +kernel
theorem dL_law_3350 : decode cL_law 3350 = .ok (.lcmp, 1) := by decide +kernel
theorem dL_law_3351 : decode cL_law 3351 = .ok (.ifCond .eq 5, 3) := by decide +kernel
theorem dL_law_3354 : decode cL_law 3354 = .ok (.iconst 0, 1) := by decide +kernel
theorem dL_law_3355 : decode cL_law 3355 = .ok (.ireturn, 1) := by decide +kernel
theorem dL_law_3356 : decode cL_law 3356 = .ok (.goto 200, 3) := by decide +kernel
theorem dL_law_3359 : decode cL_law 3359 = .ok (.aload_n 1, 1) := by decide +kernel
theorem dL_law_3360 : decode cL_law 3360 = .ok (.aload_n 3, 1) := by decide +kernel
theorem dL_law_3361 : decode cL_law 3361 = .ok (.invokestatic 408, 3) := by decide +kernel
theorem dL_law_3364 : decode cL_law 3364 = .ok (.istore 5, 2) := by decide +kernel
theorem dL_law_3366 : decode cL_law 3366 = .ok (.aload_n 2, 1) := by decide +kernel
theorem dL_law_3367 : decode cL_law 3367 = .ok (.invokevirtual 410, 3) := by decide +kernel
theorem dL_law_3370 : decode cL_law 3370 = .ok (.istore 6, 2) := by decide +kernel
theorem dL_law_3372 : decode cL_law 3372 = .ok (.aload_n 2, 1) := by decide +kernel
theorem dL_law_3373 : decode cL_law 3373 = .ok (.invokevirtual 190, 3) := by decide +kernel
theorem dL_law_3376 : decode cL_law 3376 = .ok (.iload 5, 2) := by decide +kernel
theorem dL_law_3378 : decode cL_law 3378 = .ok (.if_icmp .eq 5, 3) := by decide +kernel
theorem dL_law_3381 : decode cL_law 3381 = .ok (.iconst 0, 1) := by decide +kernel
theorem dL_law_3382 : decode cL_law 3382 = .ok (.ireturn, 1) := by decide +kernel
theorem dL_law_3383 : decode cL_law 3383 = .ok (.iload 5, 2) := by decide +kernel
theorem dL_law_3385 : decode cL_law 3385 = .ok (.ifCond .ne 15, 3) := by decide +kernel
theorem dL_law_3388 : decode cL_law 3388 = .ok (.aload_n 3, 1) := by decide +kernel
theorem dL_law_3389 : decode cL_law 3389 = .ok (.iconst 0, 1) := by decide +kernel
theorem dL_law_3390 : decode cL_law 3390 = .ok (.laload, 1) := by decide +kernel
theorem dL_law_3391 : decode cL_law 3391 = .ok (.iload 6, 2) := by decide +kernel
theorem dL_law_3393 : decode cL_law 3393 = .ok (.i2l, 1) := by decide +kernel
theorem dL_law_3394 : decode cL_law 3394 = .ok (.lcmp, 1) := by decide +kernel
theorem dL_law_3395 : decode cL_law 3395 = .ok (.ifCond .eq 5, 3) := by decide +kernel
theorem dL_law_3398 : decode cL_law 3398 = .ok (.iconst 0, 1) := by decide +kernel
theorem dL_law_3399 : decode cL_law 3399 = .ok (.ireturn, 1) := by decide +kernel
theorem dL_law_3400 : decode cL_law 3400 = .ok (.goto 156, 3) := by decide +kernel
theorem dL_law_3403 : decode cL_law 3403 = .ok (.aload_n 1, 1) := by decide +kernel
theorem dL_law_3404 : decode cL_law 3404 = .ok (.aload_n 3, 1) := by decide +kernel
theorem dL_law_3405 : decode cL_law 3405 = .ok (.invokestatic 411, 3) := by decide +kernel
theorem dL_law_3408 : decode cL_law 3408 = .ok (.istore 5, 2) := by decide +kernel
theorem dL_law_3410 : decode cL_law 3410 = .ok (.aload_n 2, 1) := by decide +kernel
theorem dL_law_3411 : decode cL_law 3411 = .ok (.invokevirtual 413, 3) := by decide +kernel
theorem dL_law_3414 : decode cL_law 3414 = .ok (.istore 6, 2) := by decide +kernel
theorem dL_law_3416 : decode cL_law 3416 = .ok (.aload_n 2, 1) := by decide +kernel
theorem dL_law_3417 : decode cL_law 3417 = .ok (.invokevirtual 190, 3) := by decide +kernel
theorem dL_law_3420 : decode cL_law 3420 = .ok (.iload 5, 2) := by decide +kernel
theorem dL_law_3422 : decode cL_law 3422 = .ok (.if_icmp .eq 5, 3) := by decide +kernel
theorem dL_law_3425 : decode cL_law 3425 = .ok (.iconst 0, 1) := by decide +kernel
theorem dL_law_3426 : decode cL_law 3426 = .ok (.ireturn, 1) := by decide +kernel
theorem dL_law_3427 : decode cL_law 3427 = .ok (.iload 5, 2) := by decide +kernel
theorem dL_law_3429 : decode cL_law 3429 = .ok (.ifCond .ne 15, 3) := by decide +kernel
theorem dL_law_3432 : decode cL_law 3432 = .ok (.aload_n 3, 1) := by decide +kernel
theorem dL_law_3433 : decode cL_law 3433 = .ok (.iconst 0, 1) := by decide +kernel
theorem dL_law_3434 : decode cL_law 3434 = .ok (.laload, 1) := by decide +kernel
theorem dL_law_3435 : decode cL_law 3435 = .ok (.iload 6, 2) := by decide +kernel
theorem dL_law_3437 : decode cL_law 3437 = .ok (.i2l, 1) := by decide +kernel
theorem dL_law_3438 : decode cL_law 3438 = .ok (.lcmp, 1) := by decide +kernel
theorem dL_law_3439 : decode cL_law 3439 = .ok (.ifCond .eq 5, 3) := by decide +kernel
theorem dL_law_3442 : decode cL_law 3442 = .ok (.iconst 0, 1) := by decide +kernel
theorem dL_law_3443 : decode cL_law 3443 = .ok (.ireturn, 1) := by decide +kernel
theorem dL_law_3444 : decode cL_law 3444 = .ok (.goto 112, 3) := by decide +kernel
theorem dL_law_3447 : decode cL_law 3447 = .ok (.aload_n 1, 1) := by decide +kernel
theorem dL_law_3448 : decode cL_law 3448 = .ok (.invokevirtual 414, 3) := by decide +kernel
theorem dL_law_3451 : decode cL_law 3451 = .ok (.aload_n 2, 1) := by decide +kernel
theorem dL_law_3452 : decode cL_law 3452 = .ok (.invokevirtual 417, 3) := by decide +kernel
theorem dL_law_3455 : decode cL_law 3455 = .ok (.if_icmp .eq 101, 3) := by decide +kernel
theorem dL_law_3458 : decode cL_law 3458 = .ok (.iconst 0, 1) := by decide +kernel
theorem dL_law_3459 : decode cL_law 3459 = .ok (.ireturn, 1) := by decide +kernel
theorem dL_law_3460 : decode cL_law 3460 = .ok (.aload_n 1, 1) := by decide +kernel
theorem dL_law_3461 : decode cL_law 3461 = .ok (.invokevirtual 418, 3) := by decide +kernel
theorem dL_law_3464 : decode cL_law 3464 = .ok (.dstore 5, 2) := by decide +kernel
theorem dL_law_3466 : decode cL_law 3466 = .ok (.aload_n 2, 1) := by decide +kernel
theorem dL_law_3467 : decode cL_law 3467 = .ok (.invokevirtual 422, 3) := by decide +kernel
theorem dL_law_3470 : decode cL_law 3470 = .ok (.dstore 7, 2) := by decide +kernel
theorem dL_law_3472 : decode cL_law 3472 = .ok (.dload 5, 2) := by decide +kernel
theorem dL_law_3474 : decode cL_law 3474 = .ok (.dload 7, 2) := by decide +kernel
theorem dL_law_3476 : decode cL_law 3476 = .ok (.dcmp .l, 1) := by decide +kernel
theorem dL_law_3477 : decode cL_law 3477 = .ok (.ifCond .eq 21, 3) := by decide +kernel
theorem dL_law_3480 : decode cL_law 3480 = .ok (.dload 5, 2) := by decide +kernel
theorem dL_law_3482 : decode cL_law 3482 = .ok (.dload 5, 2) := by decide +kernel
theorem dL_law_3484 : decode cL_law 3484 = .ok (.dcmp .l, 1) := by decide +kernel
theorem dL_law_3485 : decode cL_law 3485 = .ok (.ifCond .eq 11, 3) := by decide +kernel
theorem dL_law_3488 : decode cL_law 3488 = .ok (.dload 7, 2) := by decide +kernel
theorem dL_law_3490 : decode cL_law 3490 = .ok (.dload 7, 2) := by decide +kernel
theorem dL_law_3492 : decode cL_law 3492 = .ok (.dcmp .l, 1) := by decide +kernel
theorem dL_law_3493 : decode cL_law 3493 = .ok (.ifCond .ne 5, 3) := by decide +kernel
theorem dL_law_3496 : decode cL_law 3496 = .ok (.iconst 0, 1) := by decide +kernel
theorem dL_law_3497 : decode cL_law 3497 = .ok (.ireturn, 1) := by decide +kernel
theorem dL_law_3498 : decode cL_law 3498 = .ok (.goto 58, 3) := by decide +kernel
theorem dL_law_3501 : decode cL_law 3501 = .ok (.aload_n 1, 1) := by decide +kernel
theorem dL_law_3502 : decode cL_law 3502 = .ok (.invokevirtual 423, 3) := by decide +kernel
theorem dL_law_3505 : decode cL_law 3505 = .ok (.dstore 5, 2) := by decide +kernel
theorem dL_law_3507 : decode cL_law 3507 = .ok (.aload_n 2, 1) := by decide +kernel
theorem dL_law_3508 : decode cL_law 3508 = .ok (.invokevirtual 426, 3) := by decide +kernel
theorem dL_law_3511 : decode cL_law 3511 = .ok (.dstore 7, 2) := by decide +kernel
theorem dL_law_3513 : decode cL_law 3513 = .ok (.dload 5, 2) := by decide +kernel
theorem dL_law_3515 : decode cL_law 3515 = .ok (.dload 7, 2) := by decide +kernel
theorem dL_law_3517 : decode cL_law 3517 = .ok (.dcmp .l, 1) := by decide +kernel
theorem dL_law_3518 : decode cL_law 3518 = .ok (.ifCond .eq 21, 3) := by decide +kernel
theorem dL_law_3521 : decode cL_law 3521 = .ok (.dload 5, 2) := by decide +kernel
theorem dL_law_3523 : decode cL_law 3523 = .ok (.dload 5, 2) := by decide +kernel
theorem dL_law_3525 : decode cL_law 3525 = .ok (.dcmp .l, 1) := by decide +kernel
theorem dL_law_3526 : decode cL_law 3526 = .ok (.ifCond .eq 11, 3) := by decide +kernel
theorem dL_law_3529 : decode cL_law 3529 = .ok (.dload 7, 2) := by decide +kernel
theorem dL_law_3531 : decode cL_law 3531 = .ok (.dload 7, 2) := by decide +kernel
theorem dL_law_3533 : decode cL_law 3533 = .ok (.dcmp .l, 1) := by decide +kernel
theorem dL_law_3534 : decode cL_law 3534 = .ok (.ifCond .ne 5, 3) := by decide +kernel
theorem dL_law_3537 : decode cL_law 3537 = .ok (.iconst 0, 1) := by decide +kernel
theorem dL_law_3538 : decode cL_law 3538 = .ok (.ireturn, 1) := by decide +kernel
theorem dL_law_3539 : decode cL_law 3539 = .ok (.goto 17, 3) := by decide +kernel
theorem dL_law_3542 : decode cL_law 3542 = .ok (.aload_n 1, 1) := by decide +kernel
theorem dL_law_3543 : decode cL_law 3543 = .ok (.invokevirtual 427, 3) := by decide +kernel
theorem dL_law_3546 : decode cL_law 3546 = .ok (.aload_n 2, 1) := by decide +kernel
theorem dL_law_3547 : decode cL_law 3547 = .ok (.invokevirtual 431, 3) := by decide +kernel
theorem dL_law_3550 : decode cL_law 3550 = .ok (.lcmp, 1) := by decide +kernel
theorem dL_law_3551 : decode cL_law 3551 = .ok (.ifCond .eq 5, 3) := by decide +kernel
theorem dL_law_3554 : decode cL_law 3554 = .ok (.iconst 0, 1) := by decide +kernel
theorem dL_law_3555 : decode cL_law 3555 = .ok (.ireturn, 1) := by decide +kernel
theorem dL_law_3556 : decode cL_law 3556 = .ok (.iinc 4 3, 3) := by decide +kernel
theorem dL_law_3559 : decode cL_law 3559 = .ok (.goto (-3536), 3) := by decide +kernel
theorem dL_law_3562 : decode cL_law 3562 = .ok (.iconst 1, 1) := by decide +kernel
theorem dL_law_3563 : decode cL_law 3563 = .ok (.ireturn, 1) := by decide +kernel
abbrev vwCl : List vw_C := [(RX0, TX0, 4), (RX1, TX1, 3), (RX2, TX2, 7), (RX3, TX3, 2), (RX4, TX4, 3), (RX5, TX5, 3), (RX6, TX6, 5), (RX7, TX7, 6), (RX8, TX8, 6), (RX9, TX9, 13)]
