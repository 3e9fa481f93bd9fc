theorem dX8_leastOf_1 : decode cX8_leastOf 1 = .ok (.iload_n 1, 1) := by decide +kernel
theorem dX8_leastOf_2 : decode cX8_leastOf 2 = .ok (.invokevirtual 135, 3) := by decide +kernel
theorem dX8_leastOf_5 : decode cX8_leastOf 5 = .ok (.aload_n 0, 1) := by decide +kernel
theorem dX8_leastOf_6 : decode cX8_leastOf 6 = .ok (.getfield 12, 3) := by decide +kernel
theorem dX8_leastOf_9 : decode cX8_leastOf 9 = .ok (.getfield 144, 3) := by decide +kernel
theorem dX8_leastOf_12 : decode cX8_leastOf 12 = .ok (.getfield 221, 3) := by decide +kernel
theorem dX8_leastOf_15 : decode cX8_leastOf 15 = .ok (.iload_n 1, 1) := by decide +kernel
theorem dX8_leastOf_16 : decode cX8_leastOf 16 = .ok (.iaload, 1) := by decide +kernel
theorem dX8_leastOf_17 : decode cX8_leastOf 17 = .ok (.ireturn, 1) := by decide +kernel
set_option maxRecDepth 20000 in
theorem ggX8_missingOf_X8_requireKind : GoodIn wsX8_missingOf wsX8_requireKind := goodIn_ca (goodIn_r _ [6, 7, 8] (by decide +kernel) (by decide +kernel)) (goodIn_sub (fun _ h => List.mem_cons_of_mem _ (List.mem_append_right _ h)) (by decide +kernel))
set_option maxRecDepth 20000 in
theorem gX8_missingOf_X8_requireKind : GoodIn wsX8_missingOf (wsV RX8 135 RX8 yX8_requireKind wsX8_requireKind) := goodIn_app (goodIn_of _ (by decide +kernel)) ggX8_missingOf_X8_requireKind
set_option maxRecDepth 20000 in
theorem ggX8_missingOf_X6_missing : GoodIn wsX8_missingOf wsX6_missing := goodIn_r _ [12, 13, 14, 15, 16, 17, 18, 19, 20, 21, 22, 23, 24, 25, 26, 27, 28, 35, 36, 37, 38, 39, 40, 41, 42, 43, 44, 45, 46, 47, 48, 49] (by decide +kernel) (by decide +kernel)
set_option maxRecDepth 20000 in
theorem gX8_missingOf_X6_missing_n323 : GoodIn wsX8_missingOf (wsX6_missing) := ggX8_missingOf_X6_missing
theorem dX8_missingOf_0 : decode cX8_missingOf 0 = .ok (.aload_n 0, 1) := by decide +kernel
theorem dX8_missingOf_1 : decode cX8_missingOf 1 = .ok (.iload_n 1, 1) := by decide +kernel
theorem dX8_missingOf_2 : decode cX8_missingOf 2 = .ok (.invokevirtual 135, 3) := by decide +kernel
theorem dX8_missingOf_5 : decode cX8_missingOf 5 = .ok (.aload_n 0, 1) := by decide +kernel
theorem dX8_missingOf_6 : decode cX8_missingOf 6 = .ok (.getfield 12, 3) := by decide +kernel
theorem dX8_missingOf_9 : decode cX8_missingOf 9 = .ok (.iload_n 1, 1) := by decide +kernel
theorem dX8_missingOf_10 : decode cX8_missingOf 10 = .ok (.invokevirtual 323, 3) := by decide +kernel
theorem dX8_missingOf_13 : decode cX8_missingOf 13 = .ok (.ireturn, 1) := by decide +kernel
set_option maxRecDepth 20000 in
theorem ggX8_shortKinds_X6_missing : GoodIn wsX8_shortKinds wsX6_missing := goodIn_r _ [5, 6, 7, 8, 9, 10, 11, 12, 13, 14, 15, 16, 17, 18, 19, 20, 21, 28, 29, 30, 31, 32, 33, 34, 35, 36, 37, 38, 39, 40, 41, 42] (by decide +kernel) (by decide +kernel)
set_option maxRecDepth 20000 in
theorem gX8_shortKinds_X6_missing_n323 : GoodIn wsX8_shortKinds (wsX6_missing) := ggX8_shortKinds_X6_missing
theorem dX8_shortKinds_0 : decode cX8_shortKinds 0 = .ok (.iconst 0, 1) := by decide +kernel
theorem dX8_shortKinds_1 : decode cX8_shortKinds 1 = .ok (.istore_n 1, 1) := by decide +kernel
theorem dX8_shortKinds_2 : decode cX8_shortKinds 2 = .ok (.iconst 0, 1) := by decide +kernel
theorem dX8_shortKinds_3 : decode cX8_shortKinds 3 = .ok (.istore_n 2, 1) := by decide +kernel
theorem dX8_shortKinds_4 : decode cX8_shortKinds 4 = .ok (.iload_n 2, 1) := by decide +kernel
theorem dX8_shortKinds_5 : decode cX8_shortKinds 5 = .ok (.bipush 10, 2) := by decide +kernel
theorem dX8_shortKinds_7 : decode cX8_shortKinds 7 = .ok (.if_icmp .ge 26, 3) := by decide +kernel
theorem dX8_shortKinds_10 : decode cX8_shortKinds 10 = .ok (.aload_n 0, 1) := by decide +kernel
theorem dX8_shortKinds_11 : decode cX8_shortKinds 11 = .ok (.getfield 12, 3) := by decide +kernel
theorem dX8_shortKinds_14 : decode cX8_shortKinds 14 = .ok (.iload_n 2, 1) := by decide +kernel
theorem dX8_shortKinds_15 : decode cX8_shortKinds 15 = .ok (.invokevirtual 323, 3) := by decide +kernel
theorem dX8_shortKinds_18 : decode cX8_shortKinds 18 = .ok (.ifCond .le 9, 3) := by decide +kernel
theorem dX8_shortKinds_21 : decode cX8_shortKinds 21 = .ok (.iload_n 1, 1) := by decide +kernel
theorem dX8_shortKinds_22 : decode cX8_shortKinds 22 = .ok (.iconst 1, 1) := by decide +kernel
theorem dX8_shortKinds_23 : decode cX8_shortKinds 23 = .ok (.iload_n 2, 1) := by decide +kernel
theorem dX8_shortKinds_24 : decode cX8_shortKinds 24 = .ok (.ishl, 1) := by decide +kernel
theorem dX8_shortKinds_25 : decode cX8_shortKinds 25 = .ok (.ior, 1) := by decide +kernel
theorem dX8_shortKinds_26 : decode cX8_shortKinds 26 = .ok (.istore_n 1, 1) := by decide +kernel
theorem dX8_shortKinds_27 : decode cX8_shortKinds 27 = .ok (.iinc 2 1, 3) := by decide +kernel
theorem dX8_shortKinds_30 : decode cX8_shortKinds 30 = .ok (.goto (-26), 3) := by decide +kernel
theorem dX8_shortKinds_33 : decode cX8_shortKinds 33 = .ok (.iload_n 1, 1) := by decide +kernel
theorem dX8_shortKinds_34 : decode cX8_shortKinds 34 = .ok (.ireturn, 1) := by decide +kernel
theorem dX8_orders_0 : decode cX8_orders 0 = .ok (.aload_n 0, 1) := by decide +kernel
theorem dX8_orders_1 : decode cX8_orders 1 = .ok (.getfield 12, 3) := by decide +kernel
theorem dX8_orders_4 : decode cX8_orders 4 = .ok (.getfield 179, 3) := by decide +kernel
theorem dX8_orders_7 : decode cX8_orders 7 = .ok (.getfield 183, 3) := by decide +kernel
theorem dX8_orders_10 : decode cX8_orders 10 = .ok (.ireturn, 1) := by decide +kernel
set_option maxRecDepth 20000 in
theorem ggX8_wanted_X8_requireOrder : GoodIn wsX8_wanted wsX8_requireOrder := goodIn_ca (goodIn_r _ [6, 7, 8, 1, 18, 19, 20, 21, 22, 23, 24, 25, 26, 27, 28, 29, 30] (by decide +kernel) (by decide +kernel)) (goodIn_sub (fun _ h => List.mem_cons_of_mem _ (List.mem_append_right _ h)) (by decide +kernel))
set_option maxRecDepth 20000 in
theorem gX8_wanted_X8_requireOrder : GoodIn wsX8_wanted (wsV RX8 203 RX8 yX8_requireOrder wsX8_requireOrder) := goodIn_app (goodIn_of _ (by decide +kernel)) ggX8_wanted_X8_requireOrder
set_option maxRecDepth 20000 in
theorem ggX8_wanted_X8_requireKind : GoodIn wsX8_wanted wsX8_requireKind := goodIn_ca (goodIn_r _ [12, 7, 8] (by decide +kernel) (by decide +kernel)) (goodIn_sub (fun _ h => List.mem_cons_of_mem _ (List.mem_append_right _ h)) (by decide +kernel))
set_option maxRecDepth 20000 in
theorem gX8_wanted_X8_requireKind : GoodIn wsX8_wanted (wsV RX8 135 RX8 yX8_requireKind wsX8_requireKind) := goodIn_app (goodIn_of _ (by decide +kernel)) ggX8_wanted_X8_requireKind
set_option maxRecDepth 20000 in
theorem ggX8_wanted_X3_wantedOf : GoodIn wsX8_wanted wsX3_wantedOf := goodIn_r _ [16, 17, 29, 30] (by decide +kernel) (by decide +kernel)
set_option maxRecDepth 20000 in
theorem gX8_wanted_X3_wantedOf_n326 : GoodIn wsX8_wanted (wsX3_wantedOf) := ggX8_wanted_X3_wantedOf
theorem dX8_wanted_0 : decode cX8_wanted 0 = .ok (.aload_n 0, 1) := by decide +kernel
theorem dX8_wanted_1 : decode cX8_wanted 1 = .ok (.iload_n 1, 1) := by decide +kernel
theorem dX8_wanted_2 : decode cX8_wanted 2 = .ok (.invokevirtual 203, 3) := by decide +kernel
theorem dX8_wanted_5 : decode cX8_wanted 5 = .ok (.aload_n 0, 1) := by decide +kernel
theorem dX8_wanted_6 : decode cX8_wanted 6 = .ok (.iload_n 2, 1) := by decide +kernel
theorem dX8_wanted_7 : decode cX8_wanted 7 = .ok (.invokevirtual 135, 3) := by decide +kernel
theorem dX8_wanted_10 : decode cX8_wanted 10 = .ok (.aload_n 0, 1) := by decide +kernel
theorem dX8_wanted_11 : decode cX8_wanted 11 = .ok (.getfield 12, 3) := by decide +kernel
theorem dX8_wanted_14 : decode cX8_wanted 14 = .ok (.getfield 179, 3) := by decide +kernel
theorem dX8_wanted_17 : decode cX8_wanted 17 = .ok (.iload_n 1, 1) := by decide +kernel
theorem dX8_wanted_18 : decode cX8_wanted 18 = .ok (.iload_n 2, 1) := by decide +kernel
theorem dX8_wanted_19 : decode cX8_wanted 19 = .ok (.invokevirtual 326, 3) := by decide +kernel
theorem dX8_wanted_22 : decode cX8_wanted 22 = .ok (.ireturn, 1) := by decide +kernel
set_option maxRecDepth 20000 in
theorem ggX8_thingsOf_X8_requireOrder : GoodIn wsX8_thingsOf wsX8_requireOrder := goodIn_ca (goodIn_r _ [6, 7, 8, 1, 18, 19, 20, 21, 22, 23, 24, 25, 26, 27, 28, 29, 30] (by decide +kernel) (by decide +kernel)) (goodIn_sub (fun _ h => List.mem_cons_of_mem _ (List.mem_append_right _ h)) (by decide +kernel))
set_option maxRecDepth 20000 in
theorem gX8_thingsOf_X8_requireOrder : GoodIn wsX8_thingsOf (wsV RX8 203 RX8 yX8_requireOrder wsX8_requireOrder) := goodIn_app (goodIn_of _ (by decide +kernel)) ggX8_thingsOf_X8_requireOrder
set_option maxRecDepth 20000 in
theorem ggX8_thingsOf_X3_sumOf : GoodIn wsX8_thingsOf wsX3_sumOf := goodIn_r _ [12, 13, 14, 15, 10, 16, 17, 29, 30] (by decide +kernel) (by decide +kernel)
set_option maxRecDepth 20000 in
theorem gX8_thingsOf_X3_sumOf_n206 : GoodIn wsX8_thingsOf (wsX3_sumOf) := ggX8_thingsOf_X3_sumOf
theorem dX8_thingsOf_0 : decode cX8_thingsOf 0 = .ok (.aload_n 0, 1) := by decide +kernel
theorem dX8_thingsOf_1 : decode cX8_thingsOf 1 = .ok (.iload_n 1, 1) := by decide +kernel
theorem dX8_thingsOf_2 : decode cX8_thingsOf 2 = .ok (.invokevirtual 203, 3) := by decide +kernel
theorem dX8_thingsOf_5 : decode cX8_thingsOf 5 = .ok (.aload_n 0, 1) := by decide +kernel
theorem dX8_thingsOf_6 : decode cX8_thingsOf 6 = .ok (.getfield 12, 3) := by decide +kernel
theorem dX8_thingsOf_9 : decode cX8_thingsOf 9 = .ok (.getfield 179, 3) := by decide +kernel
theorem dX8_thingsOf_12 : decode cX8_thingsOf 12 = .ok (.iload_n 1, 1) := by decide +kernel
theorem dX8_thingsOf_13 : decode cX8_thingsOf 13 = .ok (.invokevirtual 206, 3) := by decide +kernel
theorem dX8_thingsOf_16 : decode cX8_thingsOf 16 = .ok (.ireturn, 1) := by decide +kernel
set_option maxRecDepth 20000 in
theorem ggX8_canServe_X8_requireOrder : GoodIn wsX8_canServe wsX8_requireOrder := goodIn_ca (goodIn_r _ [6, 7, 8, 1, 29, 30, 31, 32, 33, 34, 35, 36, 37, 38, 39, 40, 41] (by decide +kernel) (by decide +kernel)) (goodIn_sub (fun _ h => List.mem_cons_of_mem _ (List.mem_append_right _ h)) (by decide +kernel))
set_option maxRecDepth 20000 in
theorem gX8_canServe_X8_requireOrder : GoodIn wsX8_canServe (wsV RX8 203 RX8 yX8_requireOrder wsX8_requireOrder) := goodIn_app (goodIn_of _ (by decide +kernel)) ggX8_canServe_X8_requireOrder
set_option maxRecDepth 20000 in
theorem ggX8_canServe_X6_isServable : GoodIn wsX8_canServe wsX6_isServable := goodIn_r _ [12, 13, 14, 15, 16, 10, 17, 18, 19, 20, 21, 22, 23, 24, 25, 26, 27, 28, 35, 36, 37, 38, 39, 42, 43, 44, 45, 46, 47, 40, 41] (by decide +kernel) (by decide +kernel)
set_option maxRecDepth 20000 in
theorem gX8_canServe_X6_isServable_n329 : GoodIn wsX8_canServe (wsX6_isServable) := ggX8_canServe_X6_isServable
theorem dX8_canServe_0 : decode cX8_canServe 0 = .ok (.aload_n 0, 1) := by decide +kernel
theorem dX8_canServe_1 : decode cX8_canServe 1 = .ok (.iload_n 1, 1) := by decide +kernel
theorem dX8_canServe_2 : decode cX8_canServe 2 = .ok (.invokevirtual 203, 3) := by decide +kernel
theorem dX8_canServe_5 : decode cX8_canServe 5 = .ok (.aload_n 0, 1) := by decide +kernel
theorem dX8_canServe_6 : decode cX8_canServe 6 = .ok (.getfield 12, 3) := by decide +kernel
theorem dX8_canServe_9 : decode cX8_canServe 9 = .ok (.iload_n 1, 1) := by decide +kernel
theorem dX8_canServe_10 : decode cX8_canServe 10 = .ok (.invokevirtual 329, 3) := by decide +kernel
theorem dX8_canServe_13 : decode cX8_canServe 13 = .ok (.ireturn, 1) := by decide +kernel
set_option maxRecDepth 20000 in
theorem ggX8_fewestByTrying_X8_requireOrder : GoodIn wsX8_fewestByTrying wsX8_requireOrder := goodIn_ca (goodIn_r _ [6, 7, 8, 1, 50, 51, 52, 53, 54, 55, 56, 57, 58, 59, 60, 61, 62] (by decide +kernel) (by decide +kernel)) (goodIn_sub (fun _ h => List.mem_cons_of_mem _ (List.mem_append_left _ (List.mem_append_right _ h))) (by decide +kernel))
set_option maxRecDepth 20000 in
theorem gX8_fewestByTrying_X8_requireOrder : GoodIn wsX8_fewestByTrying (wsV RX8 203 RX8 yX8_requireOrder wsX8_requireOrder) := goodIn_app (goodIn_of _ (by decide +kernel)) ggX8_fewestByTrying_X8_requireOrder
set_option maxRecDepth 20000 in
theorem ggX8_fewestByTrying_X8_requireServable : GoodIn wsX8_fewestByTrying wsX8_requireServable := goodIn_ca (goodIn_r _ [12, 13, 14, 1, 15, 16, 17, 18, 19, 20, 21, 22, 23, 24, 25, 26, 27, 28, 29, 30, 31, 32, 33, 34, 50, 51, 52, 53, 54, 55, 56, 57, 58, 59, 60, 63, 64, 65, 66, 67, 68, 61, 62] (by decide +kernel) (by decide +kernel)) (goodIn_sub (fun _ h => List.mem_cons_of_mem _ (List.mem_append_right _ h)) (by decide +kernel))
set_option maxRecDepth 20000 in
theorem gX8_fewestByTrying_X8_requireServable : GoodIn wsX8_fewestByTrying (wsV RX8 210 RX8 yX8_requireServable wsX8_requireServable) := goodIn_app (goodIn_of _ (by decide +kernel)) ggX8_fewestByTrying_X8_requireServable
set_option maxRecDepth 20000 in
theorem ggX8_fewestByTrying_X6_choice : GoodIn wsX8_fewestByTrying wsX6_choice := goodIn_r _ [37, 38, 39, 40, 16, 41, 19, 24, 25, 26, 27, 28, 29, 30, 31, 32, 33, 34, 42, 43, 44, 45, 46, 47, 48, 20, 21, 22, 23, 56, 57, 58, 59, 60, 63, 64, 65, 66, 67, 68, 61, 62] (by decide +kernel) (by decide +kernel)
set_option maxRecDepth 20000 in
theorem gX8_fewestByTrying_X6_choice_n332 : GoodIn wsX8_fewestByTrying (wsX6_choice) := ggX8_fewestByTrying_X6_choice
set_option maxRecDepth 20000 in
theorem ggX8_fewestByTrying_J6_bitCount_0f7a4 : GoodIn wsX8_fewestByTrying wsJ6_bitCount_0f7a4 := goodIn_r _ [45, 46, 47, 48] (by decide +kernel) (by decide +kernel)
set_option maxRecDepth 20000 in
theorem gX8_fewestByTrying_J6_bitCount_0f7a4 : GoodIn wsX8_fewestByTrying (va_wsS RX8 335 yJ6_bitCount_0f7a4 wsJ6_bitCount_0f7a4) := goodIn_app (goodIn_of _ (by decide +kernel)) ggX8_fewestByTrying_J6_bitCount_0f7a4
theorem dX8_fewestByTrying_0 : decode cX8_fewestByTrying 0 = .ok (.aload_n 0, 1) := by decide +kernel
theorem dX8_fewestByTrying_1 : decode cX8_fewestByTrying 1 = .ok (.iload_n 1, 1) := by decide +kernel
theorem dX8_fewestByTrying_2 : decode cX8_fewestByTrying 2 = .ok (.invokevirtual 203, 3) := by decide +kernel
theorem dX8_fewestByTrying_5 : decode cX8_fewestByTrying 5 = .ok (.aload_n 0, 1) := by decide +kernel
theorem dX8_fewestByTrying_6 : decode cX8_fewestByTrying 6 = .ok (.iload_n 1, 1) := by decide +kernel
theorem dX8_fewestByTrying_7 : decode cX8_fewestByTrying 7 = .ok (.invokevirtual 210, 3) := by decide +kernel
theorem dX8_fewestByTrying_10 : decode cX8_fewestByTrying 10 = .ok (.aload_n 0, 1) := by decide +kernel
theorem dX8_fewestByTrying_11 : decode cX8_fewestByTrying 11 = .ok (.getfield 12, 3) := by decide +kernel
theorem dX8_fewestByTrying_14 : decode cX8_fewestByTrying 14 = .ok (.iload_n 1, 1) := by decide +kernel
theorem dX8_fewestByTrying_15 : decode cX8_fewestByTrying 15 = .ok (.invokevirtual 332, 3) := by decide +kernel
theorem dX8_fewestByTrying_18 : decode cX8_fewestByTrying 18 = .ok (.invokestatic 335, 3) := by decide +kernel
theorem dX8_fewestByTrying_21 : decode cX8_fewestByTrying 21 = .ok (.ireturn, 1) := by decide +kernel
set_option maxRecDepth 20000 in
theorem ggX8_fewestByGoing_X8_requireOrder : GoodIn wsX8_fewestByGoing wsX8_requireOrder := goodIn_ca (goodIn_r _ [5, 6, 7, 8, 53, 54, 55, 56, 57, 58, 59, 60, 61, 62, 63, 64, 65] (by decide +kernel) (by decide +kernel)) (goodIn_sub (fun _ h => List.mem_cons_of_mem _ (List.mem_append_left _ (List.mem_append_right _ h))) (by decide +kernel))
set_option maxRecDepth 20000 in
theorem gX8_fewestByGoing_X8_requireOrder : GoodIn wsX8_fewestByGoing (wsV RX8 203 RX8 yX8_requireOrder wsX8_requireOrder) := goodIn_app (goodIn_of _ (by decide +kernel)) ggX8_fewestByGoing_X8_requireOrder
set_option maxRecDepth 20000 in
theorem ggX8_fewestByGoing_X8_requireServable : GoodIn wsX8_fewestByGoing wsX8_requireServable := goodIn_ca (goodIn_r _ [12, 13, 14, 8, 15, 16, 17, 18, 19, 20, 21, 22, 23, 24, 25, 26, 27, 28, 29, 30, 31, 32, 33, 34, 53, 54, 55, 56, 57, 58, 59, 60, 61, 62, 63, 66, 67, 68, 69, 70, 71, 64, 65] (by decide +kernel) (by decide +kernel)) (goodIn_sub (fun _ h => List.mem_cons_of_mem _ (List.mem_append_right _ h)) (by decide +kernel))
set_option maxRecDepth 20000 in
theorem gX8_fewestByGoing_X8_requireServable : GoodIn wsX8_fewestByGoing (wsV RX8 210 RX8 yX8_requireServable wsX8_requireServable) := goodIn_app (goodIn_of _ (by decide +kernel)) ggX8_fewestByGoing_X8_requireServable
set_option maxRecDepth 20000 in
theorem ggX8_fewestByGoing_X8_fewestFound : GoodIn wsX8_fewestByGoing wsX8_fewestFound := goodIn_r _ [38, 39, 8, 25, 26, 27, 28, 29, 40, 41, 4, 42, 43, 44, 45, 46, 31, 47, 48, 49, 30, 32, 33, 34, 50, 51, 52, 53, 54, 55, 56, 57, 58, 59, 60, 61, 62, 63, 64, 65, 66, 67, 68, 69, 70, 71] (by decide +kernel) (by decide +kernel)
set_option maxRecDepth 20000 in
theorem gX8_fewestByGoing_X8_fewestFound : GoodIn wsX8_fewestByGoing (wsV RX8 340 RX8 yX8_fewestFound wsX8_fewestFound) := goodIn_app (goodIn_of _ (by decide +kernel)) ggX8_fewestByGoing_X8_fewestFound
theorem dX8_fewestByGoing_0 : decode cX8_fewestByGoing 0 = .ok (.aload_n 0, 1) := by decide +kernel
theorem dX8_fewestByGoing_1 : decode cX8_fewestByGoing 1 = .ok (.iload_n 1, 1) := by decide +kernel
theorem dX8_fewestByGoing_2 : decode cX8_fewestByGoing 2 = .ok (.invokevirtual 203, 3) := by decide +kernel
theorem dX8_fewestByGoing_5 : decode cX8_fewestByGoing 5 = .ok (.aload_n 0, 1) := by decide +kernel
theorem dX8_fewestByGoing_6 : decode cX8_fewestByGoing 6 = .ok (.iload_n 1, 1) := by decide +kernel
theorem dX8_fewestByGoing_7 : decode cX8_fewestByGoing 7 = .ok (.invokevirtual 210, 3) := by decide +kernel
theorem dX8_fewestByGoing_10 : decode cX8_fewestByGoing 10 = .ok (.aload_n 0, 1) := by decide +kernel
theorem dX8_fewestByGoing_11 : decode cX8_fewestByGoing 11 = .ok (.iload_n 1, 1) := by decide +kernel
theorem dX8_fewestByGoing_12 : decode cX8_fewestByGoing 12 = .ok (.invokevirtual 340, 3) := by decide +kernel
theorem dX8_fewestByGoing_15 : decode cX8_fewestByGoing 15 = .ok (.ireturn, 1) := by decide +kernel
set_option maxRecDepth 20000 in
theorem ggX8_choiceFor_X8_requireOrder : GoodIn wsX8_choiceFor wsX8_requireOrder := goodIn_ca (goodIn_r _ [6, 7, 8, 1, 49, 50, 51, 52, 53, 54, 55, 56, 57, 58, 59, 60, 61] (by decide +kernel) (by decide +kernel)) (goodIn_sub (fun _ h => List.mem_cons_of_mem _ (List.mem_append_left _ (List.mem_append_right _ h))) (by decide +kernel))
set_option maxRecDepth 20000 in
theorem gX8_choiceFor_X8_requireOrder : GoodIn wsX8_choiceFor (wsV RX8 203 RX8 yX8_requireOrder wsX8_requireOrder) := goodIn_app (goodIn_of _ (by decide +kernel)) ggX8_choiceFor_X8_requireOrder
set_option maxRecDepth 20000 in
theorem ggX8_choiceFor_X8_requireServable : GoodIn wsX8_choiceFor wsX8_requireServable := goodIn_ca (goodIn_r _ [12, 13, 14, 1, 15, 16, 17, 18, 19, 20, 21, 22, 23, 24, 25, 26, 27, 28, 29, 30, 31, 32, 33, 34, 49, 50, 51, 52, 53, 54, 55, 56, 57, 58, 59, 62, 63, 64, 65, 66, 67, 60, 61] (by decide +kernel) (by decide +kernel)) (goodIn_sub (fun _ h => List.mem_cons_of_mem _ (List.mem_append_right _ h)) (by decide +kernel))
set_option maxRecDepth 20000 in
theorem gX8_choiceFor_X8_requireServable : GoodIn wsX8_choiceFor (wsV RX8 210 RX8 yX8_requireServable wsX8_requireServable) := goodIn_app (goodIn_of _ (by decide +kernel)) ggX8_choiceFor_X8_requireServable
set_option maxRecDepth 20000 in
theorem ggX8_choiceFor_X6_choice : GoodIn wsX8_choiceFor wsX6_choice := goodIn_r _ [37, 38, 39, 40, 16, 41, 19, 24, 25, 26, 27, 28, 29, 30, 31, 32, 33, 34, 42, 43, 44, 45, 46, 47, 48, 20, 21, 22, 23, 55, 56, 57, 58, 59, 62, 63, 64, 65, 66, 67, 60, 61] (by decide +kernel) (by decide +kernel)
set_option maxRecDepth 20000 in
theorem gX8_choiceFor_X6_choice_n332 : GoodIn wsX8_choiceFor (wsX6_choice) := ggX8_choiceFor_X6_choice
theorem dX8_choiceFor_0 : decode cX8_choiceFor 0 = .ok (.aload_n 0, 1) := by decide +kernel
theorem dX8_choiceFor_1 : decode cX8_choiceFor 1 = .ok (.iload_n 1, 1) := by decide +kernel
theorem dX8_choiceFor_2 : decode cX8_choiceFor 2 = .ok (.invokevirtual 203, 3) := by decide +kernel
theorem dX8_choiceFor_5 : decode cX8_choiceFor 5 = .ok (.aload_n 0, 1) := by decide +kernel
theorem dX8_choiceFor_6 : decode cX8_choiceFor 6 = .ok (.iload_n 1, 1) := by decide +kernel
theorem dX8_choiceFor_7 : decode cX8_choiceFor 7 = .ok (.invokevirtual 210, 3) := by decide +kernel
theorem dX8_choiceFor_10 : decode cX8_choiceFor 10 = .ok (.aload_n 0, 1) := by decide +kernel
theorem dX8_choiceFor_11 : decode cX8_choiceFor 11 = .ok (.getfield 12, 3) := by decide +kernel
theorem dX8_choiceFor_14 : decode cX8_choiceFor 14 = .ok (.iload_n 1, 1) := by decide +kernel
theorem dX8_choiceFor_15 : decode cX8_choiceFor 15 = .ok (.invokevirtual 332, 3) := by decide +kernel
theorem dX8_choiceFor_18 : decode cX8_choiceFor 18 = .ok (.ireturn, 1) := by decide +kernel
set_option maxRecDepth 20000 in
theorem ggX8_ticksByServing_X8_requireOrder : GoodIn wsX8_ticksByServing wsX8_requireOrder := goodIn_ca (goodIn_r _ [7, 8, 9, 2, 156, 157, 158, 159, 160, 161, 162, 163, 164, 165, 166, 167, 168] (by decide +kernel) (by decide +kernel)) (goodIn_sub (fun _ h => List.mem_cons_of_mem _ (List.mem_append_left _ (List.mem_append_right _ h))) (by decide +kernel))
set_option maxRecDepth 20000 in
theorem gX8_ticksByServing_X8_requireOrder : GoodIn wsX8_ticksByServing (wsV RX8 203 RX8 yX8_requireOrder wsX8_requireOrder) := goodIn_app (goodIn_of _ (by decide +kernel)) ggX8_ticksByServing_X8_requireOrder
set_option maxRecDepth 20000 in
theorem ggX8_ticksByServing_X8_requireEmptyWindow : GoodIn wsX8_ticksByServing wsX8_requireEmptyWindow := goodIn_ca (goodIn_r _ [13, 14, 15, 2, 156, 157, 158, 159, 160, 161, 162, 163, 164, 165, 166, 169, 170, 171, 172, 173, 174] (by decide +kernel) (by decide +kernel)) (goodIn_sub (fun _ h => List.mem_cons_of_mem _ (List.mem_append_right _ h)) (by decide +kernel))
set_option maxRecDepth 20000 in
theorem gX8_ticksByServing_X8_requireEmptyWindow : GoodIn wsX8_ticksByServing (wsV RX8 61 RX8 yX8_requireEmptyWindow wsX8_requireEmptyWindow) := goodIn_app (goodIn_of _ (by decide +kernel)) ggX8_ticksByServing_X8_requireEmptyWindow
set_option maxRecDepth 20000 in
theorem ggX8_ticksByServing_X8_requireServable : GoodIn wsX8_ticksByServing wsX8_requireServable := goodIn_ca (goodIn_r _ [19, 14, 15, 2, 20, 21, 22, 23, 24, 25, 26, 27, 28, 29, 30, 31, 32, 33, 34, 35, 36, 37, 38, 39, 156, 157, 158, 159, 160, 161, 162, 163, 164, 165, 166, 169, 170, 171, 172, 173, 174, 167, 168] (by decide +kernel) (by decide +kernel)) (goodIn_sub (fun _ h => List.mem_cons_of_mem _ (List.mem_append_right _ h)) (by decide +kernel))
set_option maxRecDepth 20000 in
theorem gX8_ticksByServing_X8_requireServable : GoodIn wsX8_ticksByServing (wsV RX8 210 RX8 yX8_requireServable wsX8_requireServable) := goodIn_app (goodIn_of _ (by decide +kernel)) ggX8_ticksByServing_X8_requireServable
set_option maxRecDepth 20000 in
theorem ggX8_ticksByServing_X6_copyFrom : GoodIn wsX8_ticksByServing wsX6_copyFrom := goodIn_r _ [42, 24, 43, 44, 29, 45, 46, 36, 47, 48, 49, 50, 51, 52, 53, 54, 55, 56, 57, 39, 58, 59, 60, 61, 62, 63, 64, 65, 66, 67, 68, 69, 70, 71, 72, 73, 74, 75, 76, 77, 78, 31, 79, 80, 81, 34, 82, 162, 163, 164, 165, 166, 169, 170, 171, 172, 173, 174, 175, 176, 177, 178, 179, 180, 181, 182, 183, 184, 185, 167, 168] (by decide +kernel) (by decide +kernel)
set_option maxRecDepth 20000 in
theorem gX8_ticksByServing_X6_copyFrom_n265 : GoodIn wsX8_ticksByServing (wsX6_copyFrom) := ggX8_ticksByServing_X6_copyFrom
set_option maxRecDepth 20000 in
theorem ggX8_ticksByServing_X6_serveOne : GoodIn wsX8_ticksByServing wsX6_serveOne := goodIn_r _ [85, 43, 24, 29, 45, 86, 87, 88, 21, 89, 90, 91, 92, 93, 30, 31, 32, 33, 34, 35, 36, 37, 38, 39, 94, 95, 96, 97, 98, 99, 100, 25, 26, 27, 28, 101, 102, 103, 104, 105, 106, 107, 108, 109, 110, 111, 112, 113, 114, 115, 59, 116, 117, 67, 68, 66, 118, 119, 120, 64, 65, 62, 121, 122, 123, 124, 125, 44, 126, 127, 128, 129, 130, 131, 132, 133, 134, 135, 136, 137, 138, 139, 49, 50, 56, 51, 140, 141, 142, 143, 144, 145, 146, 147, 148, 149, 150, 151, 152, 153, 154, 155, 81, 82, 53, 54, 55, 162, 163, 164, 165, 166, 175, 176, 177, 178, 179, 180, 181, 169, 170, 171, 172, 173, 174, 167, 168, 182, 183, 184, 185] (by decide +kernel) (by decide +kernel)
set_option maxRecDepth 20000 in
theorem gX8_ticksByServing_X6_serveOne_n213 : GoodIn wsX8_ticksByServing (wsX6_serveOne) := ggX8_ticksByServing_X6_serveOne
theorem dX8_ticksByServing_0 : decode cX8_ticksByServing 0 = .ok (.aload_n 0, 1) := by decide +kernel
theorem dX8_ticksByServing_1 : decode cX8_ticksByServing 1 = .ok (.iload_n 1, 1) := by decide +kernel
theorem dX8_ticksByServing_2 : decode cX8_ticksByServing 2 = .ok (.invokevirtual 203, 3) := by decide +kernel
theorem dX8_ticksByServing_5 : decode cX8_ticksByServing 5 = .ok (.aload_n 0, 1) := by decide +kernel
theorem dX8_ticksByServing_6 : decode cX8_ticksByServing 6 = .ok (.invokevirtual 61, 3) := by decide +kernel
theorem dX8_ticksByServing_9 : decode cX8_ticksByServing 9 = .ok (.aload_n 0, 1) := by decide +kernel
theorem dX8_ticksByServing_10 : decode cX8_ticksByServing 10 = .ok (.iload_n 1, 1) := by decide +kernel
theorem dX8_ticksByServing_11 : decode cX8_ticksByServing 11 = .ok (.invokevirtual 210, 3) := by decide +kernel
theorem dX8_ticksByServing_14 : decode cX8_ticksByServing 14 = .ok (.aload_n 0, 1) := by decide +kernel
theorem dX8_ticksByServing_15 : decode cX8_ticksByServing 15 = .ok (.getfield 16, 3) := by decide +kernel
theorem dX8_ticksByServing_18 : decode cX8_ticksByServing 18 = .ok (.aload_n 0, 1) := by decide +kernel
theorem dX8_ticksByServing_19 : decode cX8_ticksByServing 19 = .ok (.getfield 12, 3) := by decide +kernel
theorem dX8_ticksByServing_22 : decode cX8_ticksByServing 22 = .ok (.invokevirtual 265, 3) := by decide +kernel
theorem dX8_ticksByServing_25 : decode cX8_ticksByServing 25 = .ok (.aload_n 0, 1) := by decide +kernel
theorem dX8_ticksByServing_26 : decode cX8_ticksByServing 26 = .ok (.getfield 16, 3) := by decide +kernel
theorem dX8_ticksByServing_29 : decode cX8_ticksByServing 29 = .ok (.iload_n 1, 1) := by decide +kernel
theorem dX8_ticksByServing_30 : decode cX8_ticksByServing 30 = .ok (.invokevirtual 213, 3) := by decide +kernel
theorem dX8_ticksByServing_33 : decode cX8_ticksByServing 33 = .ok (.ireturn, 1) := by decide +kernel
set_option maxRecDepth 20000 in
theorem ggX8_ticksBySums_X8_requireOrder : GoodIn wsX8_ticksBySums wsX8_requireOrder := goodIn_ca (goodIn_r _ [8, 9, 10, 3, 63, 64, 65, 66, 67, 68, 69, 70, 71, 72, 73, 81, 82] (by decide +kernel) (by decide +kernel)) (goodIn_sub (fun _ h => List.mem_cons_of_mem _ (List.mem_append_right _ h)) (by decide +kernel))
set_option maxRecDepth 20000 in
theorem gX8_ticksBySums_X8_requireOrder : GoodIn wsX8_ticksBySums (wsV RX8 203 RX8 yX8_requireOrder wsX8_requireOrder) := goodIn_app (goodIn_of _ (by decide +kernel)) ggX8_ticksBySums_X8_requireOrder
set_option maxRecDepth 20000 in
theorem ggX8_ticksBySums_X8_requireEmptyWindow : GoodIn wsX8_ticksBySums wsX8_requireEmptyWindow := goodIn_ca (goodIn_r _ [14, 1, 2, 3, 63, 64, 65, 66, 67, 68, 69, 70, 71, 72, 73, 83, 84, 85, 86, 87, 88] (by decide +kernel) (by decide +kernel)) (goodIn_sub (fun _ h => List.mem_cons_of_mem _ (List.mem_append_left _ (List.mem_append_right _ h))) (by decide +kernel))
set_option maxRecDepth 20000 in
theorem gX8_ticksBySums_X8_requireEmptyWindow : GoodIn wsX8_ticksBySums (wsV RX8 61 RX8 yX8_requireEmptyWindow wsX8_requireEmptyWindow) := goodIn_app (goodIn_of _ (by decide +kernel)) ggX8_ticksBySums_X8_requireEmptyWindow
set_option maxRecDepth 20000 in
theorem ggX8_ticksBySums_X8_requireServable : GoodIn wsX8_ticksBySums wsX8_requireServable := goodIn_ca (goodIn_r _ [18, 1, 2, 3, 19, 20, 21, 22, 23, 24, 25, 26, 27, 28, 29, 30, 31, 32, 33, 34, 35, 36, 37, 38, 63, 64, 65, 66, 67, 68, 69, 70, 71, 72, 73, 83, 84, 85, 86, 87, 88, 81, 82] (by decide +kernel) (by decide +kernel)) (goodIn_sub (fun _ h => List.mem_cons_of_mem _ (List.mem_append_left _ (List.mem_append_right _ h))) (by decide +kernel))
set_option maxRecDepth 20000 in
theorem gX8_ticksBySums_X8_requireServable : GoodIn wsX8_ticksBySums (wsV RX8 210 RX8 yX8_requireServable wsX8_requireServable) := goodIn_app (goodIn_of _ (by decide +kernel)) ggX8_ticksBySums_X8_requireServable
set_option maxRecDepth 20000 in
theorem ggX8_ticksBySums_X6_choice : GoodIn wsX8_ticksBySums wsX6_choice := goodIn_r _ [41, 42, 43, 44, 20, 45, 23, 28, 29, 30, 31, 32, 33, 34, 35, 36, 37, 38, 46, 47, 48, 49, 50, 51, 52, 24, 25, 26, 27, 69, 70, 71, 72, 73, 83, 84, 85, 86, 87, 88, 81, 82] (by decide +kernel) (by decide +kernel)
set_option maxRecDepth 20000 in
theorem gX8_ticksBySums_X6_choice_n332 : GoodIn wsX8_ticksBySums (wsX6_choice) := ggX8_ticksBySums_X6_choice
set_option maxRecDepth 20000 in
theorem ggX8_ticksBySums_X6_sumTicks : GoodIn wsX8_ticksBySums wsX6_sumTicks := goodIn_r _ [55, 56, 23, 57, 58, 59, 60, 61, 35, 62, 69, 70, 71, 72, 73, 74, 75, 76, 77, 78, 79, 80, 83, 84, 85, 86, 87, 88] (by decide +kernel) (by decide +kernel)
set_option maxRecDepth 20000 in
theorem gX8_ticksBySums_X6_sumTicks_n345 : GoodIn wsX8_ticksBySums (wsX6_sumTicks) := ggX8_ticksBySums_X6_sumTicks
theorem dX8_ticksBySums_0 : decode cX8_ticksBySums 0 = .ok (.aload_n 0, 1) := by decide +kernel
theorem dX8_ticksBySums_1 : decode cX8_ticksBySums 1 = .ok (.iload_n 1, 1) := by decide +kernel
theorem dX8_ticksBySums_2 : decode cX8_ticksBySums 2 = .ok (.invokevirtual 203, 3) := by decide +kernel
theorem dX8_ticksBySums_5 : decode cX8_ticksBySums 5 = .ok (.aload_n 0, 1) := by decide +kernel
theorem dX8_ticksBySums_6 : decode cX8_ticksBySums 6 = .ok (.invokevirtual 61, 3) := by decide +kernel
theorem dX8_ticksBySums_9 : decode cX8_ticksBySums 9 = .ok (.aload_n 0, 1) := by decide +kernel
theorem dX8_ticksBySums_10 : decode cX8_ticksBySums 10 = .ok (.iload_n 1, 1) := by decide +kernel
theorem dX8_ticksBySums_11 : decode cX8_ticksBySums 11 = .ok (.invokevirtual 210, 3) := by decide +kernel
theorem dX8_ticksBySums_14 : decode cX8_ticksBySums 14 = .ok (.aload_n 0, 1) := by decide +kernel
theorem dX8_ticksBySums_15 : decode cX8_ticksBySums 15 = .ok (.getfield 12, 3) := by decide +kernel
theorem dX8_ticksBySums_18 : decode cX8_ticksBySums 18 = .ok (.getfield 232, 3) := by decide +kernel
theorem dX8_ticksBySums_21 : decode cX8_ticksBySums 21 = .ok (.getfield 236, 3) := by decide +kernel
theorem dX8_ticksBySums_24 : decode cX8_ticksBySums 24 = .ok (.ifCond .ne 14, 3) := by decide +kernel
theorem dX8_ticksBySums_27 : decode cX8_ticksBySums 27 = .ok (.new 54, 3) := by decide +kernel
theorem dX8_ticksBySums_30 : decode cX8_ticksBySums 30 = .ok (.dup, 1) := by decide +kernel
theorem dX8_ticksBySums_31 : decode cX8_ticksBySums 31 = .ok (.ldc_w 343, 3) := by decide +kernel
theorem dX8_ticksBySums_34 : decode cX8_ticksBySums 34 = .ok (.invokespecial 58, 3) := by decide +kernel
theorem dX8_ticksBySums_37 : decode cX8_ticksBySums 37 = .ok (.athrow, 1) := by decide +kernel
theorem dX8_ticksBySums_38 : decode cX8_ticksBySums 38 = .ok (.aload_n 0, 1) := by decide +kernel
theorem dX8_ticksBySums_39 : decode cX8_ticksBySums 39 = .ok (.getfield 12, 3) := by decide +kernel
theorem dX8_ticksBySums_42 : decode cX8_ticksBySums 42 = .ok (.aload_n 0, 1) := by decide +kernel
theorem dX8_ticksBySums_43 : decode cX8_ticksBySums 43 = .ok (.getfield 12, 3) := by decide +kernel
theorem dX8_ticksBySums_46 : decode cX8_ticksBySums 46 = .ok (.iload_n 1, 1) := by decide +kernel
theorem dX8_ticksBySums_47 : decode cX8_ticksBySums 47 = .ok (.invokevirtual 332, 3) := by decide +kernel
theorem dX8_ticksBySums_50 : decode cX8_ticksBySums 50 = .ok (.invokevirtual 345, 3) := by decide +kernel
theorem dX8_ticksBySums_53 : decode cX8_ticksBySums 53 = .ok (.ireturn, 1) := by decide +kernel
set_option maxRecDepth 20000 in
theorem ggX8_cheapestOrder_X8_requireEmptyWindow : GoodIn wsX8_cheapestOrder wsX8_requireEmptyWindow := goodIn_ca (goodIn_r _ [7, 1, 2, 8, 150, 151, 152, 153, 154, 155, 156, 157, 158, 159, 160, 161, 162, 163, 164, 165, 166] (by decide +kernel) (by decide +kernel)) (goodIn_sub (fun _ h => List.mem_cons_of_mem _ (List.mem_append_right _ h)) (by decide +kernel))
set_option maxRecDepth 20000 in
theorem gX8_cheapestOrder_X8_requireEmptyWindow : GoodIn wsX8_cheapestOrder (wsV RX8 61 RX8 yX8_requireEmptyWindow wsX8_requireEmptyWindow) := goodIn_app (goodIn_of _ (by decide +kernel)) ggX8_cheapestOrder_X8_requireEmptyWindow
set_option maxRecDepth 20000 in
theorem ggX8_cheapestOrder_X8_findCheapest : GoodIn wsX8_cheapestOrder wsX8_findCheapest := goodIn_r _ [12, 8, 13, 14, 15, 16, 17, 18, 19, 20, 21, 22, 23, 24, 25, 26, 27, 28, 29, 30, 31, 32, 33, 34, 35, 36, 37, 38, 39, 40, 41, 42, 43, 44, 45, 46, 47, 48, 49, 50, 51, 52, 53, 54, 55, 56, 57, 58, 59, 60, 61, 62, 63, 64, 65, 66, 67, 68, 69, 70, 71, 72, 73, 74, 75, 76, 77, 78, 79, 80, 81, 82, 83, 84, 85, 86, 87, 88, 89, 90, 91, 92, 93, 94, 95, 96, 97, 98, 99, 100, 101, 102, 103, 104, 105, 106, 107, 108, 109, 110, 111, 112, 113, 114, 115, 116, 117, 118, 119, 120, 121, 122, 123, 124, 125, 126, 127, 128, 129, 130, 131, 132, 133, 134, 135, 136, 137, 138, 139, 140, 141, 142, 143, 144, 145, 146, 147, 148, 149, 150, 151, 152, 153, 154, 155, 156, 157, 158, 159, 160, 167, 168, 161, 162, 163, 164, 165, 166, 169, 170, 171, 172, 173, 174, 175, 176, 177, 178, 179] (by decide +kernel) (by decide +kernel)
set_option maxRecDepth 20000 in
theorem gX8_cheapestOrder_X8_findCheapest : GoodIn wsX8_cheapestOrder (wsV RX8 348 RX8 yX8_findCheapest wsX8_findCheapest) := goodIn_app (goodIn_of _ (by decide +kernel)) ggX8_cheapestOrder_X8_findCheapest
theorem dX8_cheapestOrder_0 : decode cX8_cheapestOrder 0 = .ok (.aload_n 0, 1) := by decide +kernel
theorem dX8_cheapestOrder_1 : decode cX8_cheapestOrder 1 = .ok (.invokevirtual 61, 3) := by decide +kernel
theorem dX8_cheapestOrder_4 : decode cX8_cheapestOrder 4 = .ok (.aload_n 0, 1) := by decide +kernel
theorem dX8_cheapestOrder_5 : decode cX8_cheapestOrder 5 = .ok (.invokevirtual 348, 3) := by decide +kernel
theorem dX8_cheapestOrder_8 : decode cX8_cheapestOrder 8 = .ok (.istore_n 1, 1) := by decide +kernel
theorem dX8_cheapestOrder_9 : decode cX8_cheapestOrder 9 = .ok (.iload_n 1, 1) := by decide +kernel
theorem dX8_cheapestOrder_10 : decode cX8_cheapestOrder 10 = .ok (.iconst (-1), 1) := by decide +kernel
theorem dX8_cheapestOrder_11 : decode cX8_cheapestOrder 11 = .ok (.if_icmp .ne 14, 3) := by decide +kernel
theorem dX8_cheapestOrder_14 : decode cX8_cheapestOrder 14 = .ok (.new 54, 3) := by decide +kernel
theorem dX8_cheapestOrder_17 : decode cX8_cheapestOrder 17 = .ok (.dup, 1) := by decide +kernel
theorem dX8_cheapestOrder_18 : decode cX8_cheapestOrder 18 = .ok (.ldc_w 351, 3) := by decide +kernel
theorem dX8_cheapestOrder_21 : decode cX8_cheapestOrder 21 = .ok (.invokespecial 58, 3) := by decide +kernel
theorem dX8_cheapestOrder_24 : decode cX8_cheapestOrder 24 = .ok (.athrow, 1) := by decide +kernel
theorem dX8_cheapestOrder_25 : decode cX8_cheapestOrder 25 = .ok (.iload_n 1, 1) := by decide +kernel
theorem dX8_cheapestOrder_26 : decode cX8_cheapestOrder 26 = .ok (.ireturn, 1) := by decide +kernel
set_option maxRecDepth 20000 in
theorem ggX8_servable_X8_requireEmptyWindow : GoodIn wsX8_servable wsX8_requireEmptyWindow := goodIn_ca (goodIn_r _ [7, 8, 9, 2, 155, 156, 157, 158, 159, 160, 161, 162, 163, 164, 165, 166, 167, 168, 169, 170, 171] (by decide +kernel) (by decide +kernel)) (goodIn_sub (fun _ h => List.mem_cons_of_mem _ (List.mem_append_right _ h)) (by decide +kernel))
set_option maxRecDepth 20000 in
theorem gX8_servable_X8_requireEmptyWindow : GoodIn wsX8_servable (wsV RX8 61 RX8 yX8_requireEmptyWindow wsX8_requireEmptyWindow) := goodIn_app (goodIn_of _ (by decide +kernel)) ggX8_servable_X8_requireEmptyWindow
set_option maxRecDepth 20000 in
theorem ggX8_servable_X6_copyFrom : GoodIn wsX8_servable wsX6_copyFrom := goodIn_r _ [13, 14, 15, 16, 17, 18, 19, 20, 21, 22, 23, 24, 25, 26, 27, 28, 29, 30, 31, 32, 33, 34, 35, 36, 37, 38, 39, 40, 41, 42, 43, 44, 45, 46, 47, 48, 49, 50, 51, 52, 53, 54, 55, 56, 57, 58, 59, 161, 162, 163, 164, 165, 166, 167, 168, 169, 170, 171, 172, 173, 174, 175, 176, 177, 178, 179, 180, 181, 182, 183, 184] (by decide +kernel) (by decide +kernel)
set_option maxRecDepth 20000 in
theorem gX8_servable_X6_copyFrom_n265 : GoodIn wsX8_servable (wsX6_copyFrom) := ggX8_servable_X6_copyFrom
set_option maxRecDepth 20000 in
theorem ggX8_servable_X6_serveEach : GoodIn wsX8_servable wsX6_serveEach := goodIn_r _ [62, 63, 64, 65, 11, 66, 17, 67, 68, 69, 70, 14, 71, 72, 73, 74, 75, 54, 76, 77, 58, 78, 20, 79, 80, 32, 81, 82, 83, 84, 15, 18, 85, 86, 87, 88, 89, 90, 91, 92, 93, 94, 95, 96, 97, 98, 99, 100, 101, 102, 103, 104, 105, 106, 107, 108, 109, 110, 111, 112, 113, 114, 34, 115, 116, 42, 43, 41, 117, 118, 119, 39, 40, 37, 120, 121, 122, 123, 124, 16, 125, 126, 127, 128, 129, 130, 131, 132, 133, 134, 135, 136, 137, 138, 23, 24, 30, 25, 139, 140, 141, 142, 143, 144, 145, 146, 147, 148, 149, 150, 151, 152, 153, 154, 57, 59, 27, 28, 29, 161, 162, 163, 164, 165, 183, 184, 166, 167, 168, 169, 170, 171, 172, 173, 174, 175, 176, 177, 178, 179, 180, 181, 182] (by decide +kernel) (by decide +kernel)
set_option maxRecDepth 20000 in
theorem gX8_servable_X6_serveEach_n216 : GoodIn wsX8_servable (wsX6_serveEach) := ggX8_servable_X6_serveEach
theorem dX8_servable_0 : decode cX8_servable 0 = .ok (.aload_n 0, 1) := by decide +kernel
theorem dX8_servable_1 : decode cX8_servable 1 = .ok (.invokevirtual 61, 3) := by decide +kernel
theorem dX8_servable_4 : decode cX8_servable 4 = .ok (.aload_n 0, 1) := by decide +kernel
theorem dX8_servable_5 : decode cX8_servable 5 = .ok (.getfield 16, 3) := by decide +kernel
theorem dX8_servable_8 : decode cX8_servable 8 = .ok (.aload_n 0, 1) := by decide +kernel
theorem dX8_servable_9 : decode cX8_servable 9 = .ok (.getfield 12, 3) := by decide +kernel
theorem dX8_servable_12 : decode cX8_servable 12 = .ok (.invokevirtual 265, 3) := by decide +kernel
theorem dX8_servable_15 : decode cX8_servable 15 = .ok (.aload_n 0, 1) := by decide +kernel
theorem dX8_servable_16 : decode cX8_servable 16 = .ok (.getfield 16, 3) := by decide +kernel
theorem dX8_servable_19 : decode cX8_servable 19 = .ok (.invokevirtual 216, 3) := by decide +kernel
theorem dX8_servable_22 : decode cX8_servable 22 = .ok (.pop, 1) := by decide +kernel
theorem dX8_servable_23 : decode cX8_servable 23 = .ok (.aload_n 0, 1) := by decide +kernel
theorem dX8_servable_24 : decode cX8_servable 24 = .ok (.getfield 16, 3) := by decide +kernel
theorem dX8_servable_27 : decode cX8_servable 27 = .ok (.getfield 353, 3) := by decide +kernel
theorem dX8_servable_30 : decode cX8_servable 30 = .ok (.aload_n 0, 1) := by decide +kernel
theorem dX8_servable_31 : decode cX8_servable 31 = .ok (.getfield 12, 3) := by decide +kernel
theorem dX8_servable_34 : decode cX8_servable 34 = .ok (.getfield 353, 3) := by decide +kernel
theorem dX8_servable_37 : decode cX8_servable 37 = .ok (.isub, 1) := by decide +kernel
theorem dX8_servable_38 : decode cX8_servable 38 = .ok (.ireturn, 1) := by decide +kernel
theorem dX8_ticks_0 : decode cX8_ticks 0 = .ok (.aload_n 0, 1) := by decide +kernel
theorem dX8_ticks_1 : decode cX8_ticks 1 = .ok (.getfield 12, 3) := by decide +kernel
theorem dX8_ticks_4 : decode cX8_ticks 4 = .ok (.getfield 232, 3) := by decide +kernel
theorem dX8_ticks_7 : decode cX8_ticks 7 = .ok (.getfield 356, 3) := by decide +kernel
theorem dX8_ticks_10 : decode cX8_ticks 10 = .ok (.ireturn, 1) := by decide +kernel
theorem dX8_fetches_0 : decode cX8_fetches 0 = .ok (.aload_n 0, 1) := by decide +kernel
theorem dX8_fetches_1 : decode cX8_fetches 1 = .ok (.getfield 12, 3) := by decide +kernel
theorem dX8_fetches_4 : decode cX8_fetches 4 = .ok (.getfield 232, 3) := by decide +kernel
theorem dX8_fetches_7 : decode cX8_fetches 7 = .ok (.getfield 359, 3) := by decide +kernel
theorem dX8_fetches_10 : decode cX8_fetches 10 = .ok (.ireturn, 1) := by decide +kernel
theorem dX8_served_0 : decode cX8_served 0 = .ok (.aload_n 0, 1) := by decide +kernel
theorem dX8_served_1 : decode cX8_served 1 = .ok (.getfield 12, 3) := by decide +kernel
theorem dX8_served_4 : decode cX8_served 4 = .ok (.getfield 353, 3) := by decide +kernel
theorem dX8_served_7 : decode cX8_served 7 = .ok (.ireturn, 1) := by decide +kernel
set_option maxRecDepth 20000 in
theorem ggX8_fetchTicks_X8_requireShelf : GoodIn wsX8_fetchTicks wsX8_requireShelf := goodIn_ca (goodIn_r _ [6, 7, 8, 1, 28, 29, 30, 31, 32, 33, 34, 35, 36, 37, 38, 39, 40, 41, 42, 43, 44] (by decide +kernel) (by decide +kernel)) (goodIn_sub (fun _ h => List.mem_cons_of_mem _ (List.mem_append_left _ (List.mem_append_right _ h))) (by decide +kernel))
set_option maxRecDepth 20000 in
theorem gX8_fetchTicks_X8_requireShelf : GoodIn wsX8_fetchTicks (wsV RX8 78 RX8 yX8_requireShelf wsX8_requireShelf) := goodIn_app (goodIn_of _ (by decide +kernel)) ggX8_fetchTicks_X8_requireShelf
set_option maxRecDepth 20000 in
theorem ggX8_fetchTicks_X8_requireEmptyWindow : GoodIn wsX8_fetchTicks wsX8_requireEmptyWindow := goodIn_ca (goodIn_r _ [12, 13, 14, 1, 28, 29, 30, 31, 32, 33, 34, 35, 36, 37, 38, 39, 40, 41, 42, 43, 44] (by decide +kernel) (by decide +kernel)) (goodIn_sub (fun _ h => List.mem_cons_of_mem _ (List.mem_append_right _ h)) (by decide +kernel))
set_option maxRecDepth 20000 in
theorem gX8_fetchTicks_X8_requireEmptyWindow : GoodIn wsX8_fetchTicks (wsV RX8 61 RX8 yX8_requireEmptyWindow wsX8_requireEmptyWindow) := goodIn_app (goodIn_of _ (by decide +kernel)) ggX8_fetchTicks_X8_requireEmptyWindow
set_option maxRecDepth 20000 in
theorem ggX8_fetchTicks_X6_ticksToBring : GoodIn wsX8_fetchTicks wsX6_ticksToBring := goodIn_r _ [18, 19, 20, 21, 22, 23, 24, 25, 26, 27, 34, 35, 36, 37, 38, 39, 40, 41, 42, 43, 44, 45, 46, 47, 48, 49, 50, 51] (by decide +kernel) (by decide +kernel)
set_option maxRecDepth 20000 in
theorem gX8_fetchTicks_X6_ticksToBring_n362 : GoodIn wsX8_fetchTicks (wsX6_ticksToBring) := ggX8_fetchTicks_X6_ticksToBring
theorem dX8_fetchTicks_0 : decode cX8_fetchTicks 0 = .ok (.aload_n 0, 1) := by decide +kernel
theorem dX8_fetchTicks_1 : decode cX8_fetchTicks 1 = .ok (.iload_n 1, 1) := by decide +kernel
theorem dX8_fetchTicks_2 : decode cX8_fetchTicks 2 = .ok (.invokevirtual 78, 3) := by decide +kernel
theorem dX8_fetchTicks_5 : decode cX8_fetchTicks 5 = .ok (.aload_n 0, 1) := by decide +kernel
theorem dX8_fetchTicks_6 : decode cX8_fetchTicks 6 = .ok (.invokevirtual 61, 3) := by decide +kernel
theorem dX8_fetchTicks_9 : decode cX8_fetchTicks 9 = .ok (.aload_n 0, 1) := by decide +kernel
theorem dX8_fetchTicks_10 : decode cX8_fetchTicks 10 = .ok (.getfield 12, 3) := by decide +kernel
theorem dX8_fetchTicks_13 : decode cX8_fetchTicks 13 = .ok (.iload_n 1, 1) := by decide +kernel
theorem dX8_fetchTicks_14 : decode cX8_fetchTicks 14 = .ok (.invokevirtual 362, 3) := by decide +kernel
theorem dX8_fetchTicks_17 : decode cX8_fetchTicks 17 = .ok (.ireturn, 1) := by decide +kernel
set_option maxRecDepth 20000 in
theorem ggX8_heaviest_X8_requireSomeShelf : GoodIn wsX8_heaviest wsX8_requireSomeShelf := goodIn_ca (goodIn_r _ [6, 7, 8, 1, 24, 25, 26, 27, 28, 29, 30, 31, 32, 33, 34, 35, 36, 37, 38, 39, 40] (by decide +kernel) (by decide +kernel)) (goodIn_sub (fun _ h => List.mem_cons_of_mem _ (List.mem_append_right _ h)) (by decide +kernel))
set_option maxRecDepth 20000 in
theorem gX8_heaviest_X8_requireSomeShelf : GoodIn wsX8_heaviest (wsV RX8 365 RX8 yX8_requireSomeShelf wsX8_requireSomeShelf) := goodIn_app (goodIn_of _ (by decide +kernel)) ggX8_heaviest_X8_requireSomeShelf
set_option maxRecDepth 20000 in
theorem ggX8_heaviest_X6_findHeaviest : GoodIn wsX8_heaviest wsX6_findHeaviest := goodIn_r _ [12, 13, 14, 15, 16, 10, 17, 18, 19, 20, 21, 22, 23, 30, 31, 32, 33, 34, 35, 36, 37, 38, 39, 40, 41, 42, 43, 44] (by decide +kernel) (by decide +kernel)
set_option maxRecDepth 20000 in
theorem gX8_heaviest_X6_findHeaviest_n368 : GoodIn wsX8_heaviest (wsX6_findHeaviest) := ggX8_heaviest_X6_findHeaviest
theorem dX8_heaviest_0 : decode cX8_heaviest 0 = .ok (.aload_n 0, 1) := by decide +kernel
theorem dX8_heaviest_1 : decode cX8_heaviest 1 = .ok (.invokevirtual 365, 3) := by decide +kernel
theorem dX8_heaviest_4 : decode cX8_heaviest 4 = .ok (.aload_n 0, 1) := by decide +kernel
theorem dX8_heaviest_5 : decode cX8_heaviest 5 = .ok (.getfield 12, 3) := by decide +kernel
theorem dX8_heaviest_8 : decode cX8_heaviest 8 = .ok (.invokevirtual 368, 3) := by decide +kernel
theorem dX8_heaviest_11 : decode cX8_heaviest 11 = .ok (.ireturn, 1) := by decide +kernel
set_option maxRecDepth 20000 in
theorem ggX8_mostFetched_X8_requireSomeShelf : GoodIn wsX8_mostFetched wsX8_requireSomeShelf := goodIn_ca (goodIn_r _ [6, 7, 8, 1, 15, 16, 17, 18, 19, 20, 21, 22, 23, 24, 25, 26, 27, 28, 29, 30, 31] (by decide +kernel) (by decide +kernel)) (goodIn_sub (fun _ h => List.mem_cons_of_mem _ (List.mem_append_right _ h)) (by decide +kernel))
set_option maxRecDepth 20000 in
theorem gX8_mostFetched_X8_requireSomeShelf : GoodIn wsX8_mostFetched (wsV RX8 365 RX8 yX8_requireSomeShelf wsX8_requireSomeShelf) := goodIn_app (goodIn_of _ (by decide +kernel)) ggX8_mostFetched_X8_requireSomeShelf
set_option maxRecDepth 20000 in
theorem ggX8_mostFetched_X7_mostUsed : GoodIn wsX8_mostFetched wsX7_mostUsed := goodIn_r _ [12, 13, 14, 26, 27, 28, 29, 30, 31] (by decide +kernel) (by decide +kernel)
set_option maxRecDepth 20000 in
theorem gX8_mostFetched_X7_mostUsed_n371 : GoodIn wsX8_mostFetched (wsX7_mostUsed) := ggX8_mostFetched_X7_mostUsed
theorem dX8_mostFetched_0 : decode cX8_mostFetched 0 = .ok (.aload_n 0, 1) := by decide +kernel
theorem dX8_mostFetched_1 : decode cX8_mostFetched 1 = .ok (.invokevirtual 365, 3) := by decide +kernel
theorem dX8_mostFetched_4 : decode cX8_mostFetched 4 = .ok (.aload_n 0, 1) := by decide +kernel
theorem dX8_mostFetched_5 : decode cX8_mostFetched 5 = .ok (.getfield 12, 3) := by decide +kernel
theorem dX8_mostFetched_8 : decode cX8_mostFetched 8 = .ok (.getfield 44, 3) := by decide +kernel
theorem dX8_mostFetched_11 : decode cX8_mostFetched 11 = .ok (.iconst 0, 1) := by decide +kernel
theorem dX8_mostFetched_12 : decode cX8_mostFetched 12 = .ok (.invokevirtual 371, 3) := by decide +kernel
theorem dX8_mostFetched_15 : decode cX8_mostFetched 15 = .ok (.ireturn, 1) := by decide +kernel
set_option maxRecDepth 20000 in
theorem ggX8_usedWays_X7_sumOfUsedWays : GoodIn wsX8_usedWays wsX7_sumOfUsedWays := goodIn_r _ [5, 6, 7, 8, 9, 10, 3, 11, 23, 24, 25, 26, 27, 28] (by decide +kernel) (by decide +kernel)
set_option maxRecDepth 20000 in
theorem gX8_usedWays_X7_sumOfUsedWays_n374 : GoodIn wsX8_usedWays (wsX7_sumOfUsedWays) := ggX8_usedWays_X7_sumOfUsedWays
theorem dX8_usedWays_0 : decode cX8_usedWays 0 = .ok (.aload_n 0, 1) := by decide +kernel
theorem dX8_usedWays_1 : decode cX8_usedWays 1 = .ok (.getfield 12, 3) := by decide +kernel
theorem dX8_usedWays_4 : decode cX8_usedWays 4 = .ok (.getfield 44, 3) := by decide +kernel
theorem dX8_usedWays_7 : decode cX8_usedWays 7 = .ok (.invokevirtual 374, 3) := by decide +kernel
theorem dX8_usedWays_10 : decode cX8_usedWays 10 = .ok (.ireturn, 1) := by decide +kernel
set_option maxRecDepth 20000 in
theorem ggX8_meanWay_X7_sumOfUsedWays : GoodIn wsX8_meanWay wsX7_sumOfUsedWays := goodIn_r _ [5, 6, 7, 8, 9, 10, 3, 11, 30, 31, 32, 33, 34, 35] (by decide +kernel) (by decide +kernel)
set_option maxRecDepth 20000 in
theorem gX8_meanWay_X7_sumOfUsedWays_n374 : GoodIn wsX8_meanWay (wsX7_sumOfUsedWays) := ggX8_meanWay_X7_sumOfUsedWays
set_option maxRecDepth 20000 in
theorem ggX8_meanWay_X7_sumOfUses : GoodIn wsX8_meanWay wsX7_sumOfUses := goodIn_r _ [14, 6, 8, 30, 31, 32, 33, 34, 35] (by decide +kernel) (by decide +kernel)
set_option maxRecDepth 20000 in
theorem gX8_meanWay_X7_sumOfUses_n377 : GoodIn wsX8_meanWay (wsX7_sumOfUses) := ggX8_meanWay_X7_sumOfUses
set_option maxRecDepth 20000 in
theorem ggX8_meanWay_X8_meanOf : GoodIn wsX8_meanWay wsX8_meanOf := goodIn_r _ [18] (by decide +kernel) (by decide +kernel)
set_option maxRecDepth 20000 in
theorem gX8_meanWay_X8_meanOf : GoodIn wsX8_meanWay (va_wsS RX8 380 yX8_meanOf wsX8_meanOf) := goodIn_app (goodIn_of _ (by decide +kernel)) ggX8_meanWay_X8_meanOf
theorem dX8_meanWay_0 : decode cX8_meanWay 0 = .ok (.aload_n 0, 1) := by decide +kernel
theorem dX8_meanWay_1 : decode cX8_meanWay 1 = .ok (.getfield 12, 3) := by decide +kernel
theorem dX8_meanWay_4 : decode cX8_meanWay 4 = .ok (.getfield 44, 3) := by decide +kernel
theorem dX8_meanWay_7 : decode cX8_meanWay 7 = .ok (.invokevirtual 374, 3) := by decide +kernel
theorem dX8_meanWay_10 : decode cX8_meanWay 10 = .ok (.aload_n 0, 1) := by decide +kernel
theorem dX8_meanWay_11 : decode cX8_meanWay 11 = .ok (.getfield 12, 3) := by decide +kernel
theorem dX8_meanWay_14 : decode cX8_meanWay 14 = .ok (.getfield 44, 3) := by decide +kernel
theorem dX8_meanWay_17 : decode cX8_meanWay 17 = .ok (.invokevirtual 377, 3) := by decide +kernel
theorem dX8_meanWay_20 : decode cX8_meanWay 20 = .ok (.invokestatic 380, 3) := by decide +kernel
theorem dX8_meanWay_23 : decode cX8_meanWay 23 = .ok (.dreturn, 1) := by decide +kernel
set_option maxRecDepth 20000 in
theorem ggX8_meanTicks_X8_meanOf : GoodIn wsX8_meanTicks wsX8_meanOf := goodIn_r _ [5] (by decide +kernel) (by decide +kernel)
set_option maxRecDepth 20000 in
theorem gX8_meanTicks_X8_meanOf : GoodIn wsX8_meanTicks (va_wsS RX8 380 yX8_meanOf wsX8_meanOf) := goodIn_app (goodIn_of _ (by decide +kernel)) ggX8_meanTicks_X8_meanOf
theorem dX8_meanTicks_0 : decode cX8_meanTicks 0 = .ok (.aload_n 0, 1) := by decide +kernel
theorem dX8_meanTicks_1 : decode cX8_meanTicks 1 = .ok (.getfield 12, 3) := by decide +kernel
theorem dX8_meanTicks_4 : decode cX8_meanTicks 4 = .ok (.getfield 232, 3) := by decide +kernel
theorem dX8_meanTicks_7 : decode cX8_meanTicks 7 = .ok (.getfield 356, 3) := by decide +kernel
theorem dX8_meanTicks_10 : decode cX8_meanTicks 10 = .ok (.aload_n 0, 1) := by decide +kernel
theorem dX8_meanTicks_11 : decode cX8_meanTicks 11 = .ok (.getfield 12, 3) := by decide +kernel
theorem dX8_meanTicks_14 : decode cX8_meanTicks 14 = .ok (.getfield 232, 3) := by decide +kernel
theorem dX8_meanTicks_17 : decode cX8_meanTicks 17 = .ok (.getfield 359, 3) := by decide +kernel
theorem dX8_meanTicks_20 : decode cX8_meanTicks 20 = .ok (.invokestatic 380, 3) := by decide +kernel
theorem dX8_meanTicks_23 : decode cX8_meanTicks 23 = .ok (.dreturn, 1) := by decide +kernel
set_option maxRecDepth 20000 in
theorem ggX8_digest_X8_hashShelves : GoodIn wsX8_digest wsX8_hashShelves := goodIn_ca (goodIn_r _ [7, 2, 8, 9, 10, 6, 11, 12, 13, 14, 15, 16, 17, 18, 19, 20, 21, 22, 23, 24, 25, 26, 27, 28, 29, 30, 31, 32, 33, 34, 35, 36, 37, 38, 39, 40, 41, 42, 43, 44, 45, 46, 47, 48, 49, 50, 51, 52, 53, 54, 55, 56, 57, 58, 59, 60, 61, 62, 63, 64, 65, 66, 67, 409, 410, 411, 412, 413, 414, 415, 416, 417, 418, 419, 420, 421, 422, 423, 424, 425, 426, 427, 428, 429] (by decide +kernel) (by decide +kernel)) (goodIn_sub (fun _ h => List.mem_cons_of_mem _ (List.mem_append_right _ h)) (by decide +kernel))
set_option maxRecDepth 20000 in
theorem gX8_digest_X8_hashShelves : GoodIn wsX8_digest (wsV RX8 386 RX8 yX8_hashShelves wsX8_hashShelves) := goodIn_app (goodIn_of _ (by decide +kernel)) ggX8_digest_X8_hashShelves
set_option maxRecDepth 20000 in
theorem ggX8_digest_X8_hashSlots : GoodIn wsX8_digest wsX8_hashSlots := goodIn_ca (goodIn_r _ [71, 2, 72, 50, 73, 74, 75, 76, 77, 78, 12, 13, 6, 14, 15, 79, 80, 81, 82, 83, 84, 85, 86, 87, 88, 89, 90, 91, 92, 93, 94, 95, 96, 97, 98, 99, 100, 101, 102, 103, 104, 105, 106, 107, 108, 109, 110, 111, 112, 113, 114, 115, 116, 24, 25, 117, 118, 119, 120, 121, 122, 123, 124, 125, 126, 127, 128, 129, 130, 131, 38, 39, 40, 409, 410, 411, 412, 413, 414, 415, 416, 417, 418, 419, 420, 421, 422, 423, 424, 425, 430, 431, 432, 433, 434, 435, 436] (by decide +kernel) (by decide +kernel)) (goodIn_sub (fun _ h => List.mem_cons_of_mem _ (List.mem_append_right _ h)) (by decide +kernel))
set_option maxRecDepth 20000 in
theorem gX8_digest_X8_hashSlots : GoodIn wsX8_digest (wsV RX8 390 RX8 yX8_hashSlots wsX8_hashSlots) := goodIn_app (goodIn_of _ (by decide +kernel)) ggX8_digest_X8_hashSlots
set_option maxRecDepth 20000 in
theorem ggX8_digest_X8_hashKinds : GoodIn wsX8_digest wsX8_hashKinds := goodIn_ca (goodIn_r _ [135, 136, 137, 138, 6, 139, 2, 45, 46, 47, 48, 24, 25, 12, 13, 14, 15, 140, 141, 142, 143, 144, 50, 145, 146, 75, 147, 49, 51, 52, 53, 148, 149, 150, 151, 152, 153, 154, 155, 156, 157, 158, 159, 160, 161, 162, 163, 164, 165, 166, 167, 59, 168, 169, 63, 62, 170, 121, 122, 123, 171, 172, 173, 174, 175, 176, 177, 178, 113, 114, 115, 116, 179, 180, 181, 182, 58, 60, 61, 409, 410, 411, 412, 413, 414, 415, 416, 417, 418, 419, 426, 427, 428, 429, 420, 421, 422, 423, 424, 425] (by decide +kernel) (by decide +kernel)) (goodIn_sub (fun _ h => List.mem_cons_of_mem _ (List.mem_append_right _ h)) (by decide +kernel))
set_option maxRecDepth 20000 in
theorem gX8_digest_X8_hashKinds : GoodIn wsX8_digest (wsV RX8 393 RX8 yX8_hashKinds wsX8_hashKinds) := goodIn_app (goodIn_of _ (by decide +kernel)) ggX8_digest_X8_hashKinds
set_option maxRecDepth 20000 in
theorem ggX8_digest_X8_hashTrips : GoodIn wsX8_digest wsX8_hashTrips := goodIn_ca (goodIn_r _ [186, 2, 187, 188, 189, 6, 190, 12, 13, 14, 15, 191, 192, 193, 194, 195, 196, 197, 198, 24, 25, 199, 200, 201, 202, 38, 39, 40, 409, 410, 411, 412, 413, 414, 415, 416, 417, 418, 419, 430, 431, 432, 433, 434, 435, 436] (by decide +kernel) (by decide +kernel)) (goodIn_sub (fun _ h => List.mem_cons_of_mem _ (List.mem_append_right _ h)) (by decide +kernel))
set_option maxRecDepth 20000 in
theorem gX8_digest_X8_hashTrips : GoodIn wsX8_digest (wsV RX8 396 RX8 yX8_hashTrips wsX8_hashTrips) := goodIn_app (goodIn_of _ (by decide +kernel)) ggX8_digest_X8_hashTrips
set_option maxRecDepth 20000 in
theorem ggX8_digest_X8_hashOrders : GoodIn wsX8_digest wsX8_hashOrders := goodIn_ca (goodIn_r _ [206, 2, 207, 208, 209, 6, 210, 12, 13, 14, 15, 211, 212, 213, 214, 215, 216, 217, 218, 24, 25, 45, 46, 47, 48, 219, 220, 221, 222, 223, 224, 59, 225, 226, 62, 227, 228, 229, 230, 231, 49, 50, 51, 52, 53, 38, 39, 40, 232, 233, 234, 235, 236, 237, 238, 239, 240, 241, 242, 243, 244, 245, 246, 247, 248, 249, 250, 251, 252, 253, 254, 255, 256, 257, 258, 259, 260, 147, 261, 262, 263, 409, 410, 411, 412, 413, 414, 415, 416, 417, 418, 419, 437, 438, 420, 421, 422, 423, 424, 425] (by decide +kernel) (by decide +kernel)) (goodIn_sub (fun _ h => List.mem_cons_of_mem _ (List.mem_append_right _ h)) (by decide +kernel))
set_option maxRecDepth 20000 in
theorem gX8_digest_X8_hashOrders : GoodIn wsX8_digest (wsV RX8 399 RX8 yX8_hashOrders wsX8_hashOrders) := goodIn_app (goodIn_of _ (by decide +kernel)) ggX8_digest_X8_hashOrders
set_option maxRecDepth 20000 in
theorem ggX8_digest_X8_findCheapest : GoodIn wsX8_digest wsX8_findCheapest := goodIn_r _ [267, 2, 268, 224, 59, 225, 226, 62, 227, 228, 229, 230, 231, 219, 220, 221, 222, 223, 49, 50, 51, 52, 53, 269, 270, 271, 272, 63, 273, 274, 275, 276, 75, 76, 78, 277, 278, 279, 280, 77, 281, 282, 283, 284, 285, 286, 287, 288, 289, 290, 291, 292, 293, 294, 295, 296, 297, 298, 299, 300, 301, 302, 303, 304, 305, 306, 307, 308, 309, 310, 232, 233, 234, 235, 236, 237, 238, 239, 240, 241, 242, 243, 244, 245, 311, 312, 313, 314, 315, 316, 317, 318, 319, 320, 122, 321, 322, 323, 324, 325, 326, 327, 328, 329, 330, 331, 332, 333, 334, 335, 336, 337, 338, 339, 340, 341, 103, 104, 105, 86, 87, 88, 89, 90, 91, 92, 106, 107, 108, 93, 94, 95, 342, 343, 344, 345, 346, 347, 348, 409, 410, 411, 412, 413, 414, 415, 416, 417, 418, 419, 437, 438, 420, 421, 422, 423, 424, 425, 430, 431, 432, 433, 434, 435, 436, 426, 427, 428, 429] (by decide +kernel) (by decide +kernel)
set_option maxRecDepth 20000 in
theorem gX8_digest_X8_findCheapest : GoodIn wsX8_digest (wsV RX8 348 RX8 yX8_findCheapest wsX8_findCheapest) := goodIn_app (goodIn_of _ (by decide +kernel)) ggX8_digest_X8_findCheapest
set_option maxRecDepth 20000 in
theorem ggX8_digest_X8_hashOn : GoodIn wsX8_digest wsX8_hashOn := goodIn_r _ [14, 15] (by decide +kernel) (by decide +kernel)
set_option maxRecDepth 20000 in
theorem gX8_digest_X8_hashOn : GoodIn wsX8_digest (va_wsS RX8 402 yX8_hashOn wsX8_hashOn) := goodIn_app (goodIn_of _ (by decide +kernel)) ggX8_digest_X8_hashOn
set_option maxRecDepth 20000 in
theorem ggX8_digest_X8_hashAccounts : GoodIn wsX8_digest wsX8_hashAccounts := goodIn_r _ [352, 2, 353, 354, 355, 6, 356, 12, 13, 14, 15, 357, 358, 359, 360, 361, 362, 363, 364, 365, 59, 366, 367, 62, 182, 58, 60, 61, 63, 49, 50, 51, 52, 53, 368, 369, 370, 75, 281, 371, 372, 373, 374, 375, 376, 377, 77, 378, 322, 323, 379, 380, 381, 382, 383, 384, 385, 386, 387, 388, 389, 390, 391, 392, 393, 394, 395, 396, 397, 398, 399, 400, 401, 402, 403, 409, 410, 411, 412, 413, 414, 415, 416, 417, 418, 419, 430, 431, 432, 433, 434, 435, 436, 420, 421, 422, 423, 424, 425, 426, 427, 428, 429, 439, 440, 441] (by decide +kernel) (by decide +kernel)
set_option maxRecDepth 20000 in
theorem gX8_digest_X8_hashAccounts : GoodIn wsX8_digest (wsV RX8 406 RX8 yX8_hashAccounts wsX8_hashAccounts) := goodIn_app (goodIn_of _ (by decide +kernel)) ggX8_digest_X8_hashAccounts
set_option maxRecDepth 20000 in
theorem ggX8_digest_X8_hashTexts : GoodIn wsX8_digest wsX8_hashTexts := goodIn_r _ [407, 383, 408, 38, 39, 6, 40, 12, 13, 14, 15, 409, 410, 411, 412, 413, 414, 439, 440, 441, 442, 443, 444] (by decide +kernel) (by decide +kernel)
set_option maxRecDepth 20000 in
theorem gX8_digest_X8_hashTexts : GoodIn wsX8_digest (wsV RX8 409 RX8 yX8_hashTexts wsX8_hashTexts) := goodIn_app (goodIn_of _ (by decide +kernel)) ggX8_digest_X8_hashTexts
theorem dX8_digest_0 : decode cX8_digest 0 = .ok (.aload_n 0, 1) := by decide +kernel
theorem dX8_digest_1 : decode cX8_digest 1 = .ok (.ldc2_w 384, 3) := by decide +kernel
theorem dX8_digest_4 : decode cX8_digest 4 = .ok (.invokevirtual 386, 3) := by decide +kernel
theorem dX8_digest_7 : decode cX8_digest 7 = .ok (.lstore_n 1, 1) := by decide +kernel
theorem dX8_digest_8 : decode cX8_digest 8 = .ok (.aload_n 0, 1) := by decide +kernel
theorem dX8_digest_9 : decode cX8_digest 9 = .ok (.lload_n 1, 1) := by decide +kernel
theorem dX8_digest_10 : decode cX8_digest 10 = .ok (.invokevirtual 390, 3) := by decide +kernel
theorem dX8_digest_13 : decode cX8_digest 13 = .ok (.lstore_n 1, 1) := by decide +kernel
theorem dX8_digest_14 : decode cX8_digest 14 = .ok (.aload_n 0, 1) := by decide +kernel
theorem dX8_digest_15 : decode cX8_digest 15 = .ok (.lload_n 1, 1) := by decide +kernel
theorem dX8_digest_16 : decode cX8_digest 16 = .ok (.invokevirtual 393, 3) := by decide +kernel
theorem dX8_digest_19 : decode cX8_digest 19 = .ok (.lstore_n 1, 1) := by decide +kernel
theorem dX8_digest_20 : decode cX8_digest 20 = .ok (.aload_n 0, 1) := by decide +kernel
theorem dX8_digest_21 : decode cX8_digest 21 = .ok (.lload_n 1, 1) := by decide +kernel
theorem dX8_digest_22 : decode cX8_digest 22 = .ok (.invokevirtual 396, 3) := by decide +kernel
theorem dX8_digest_25 : decode cX8_digest 25 = .ok (.lstore_n 1, 1) := by decide +kernel
theorem dX8_digest_26 : decode cX8_digest 26 = .ok (.aload_n 0, 1) := by decide +kernel
theorem dX8_digest_27 : decode cX8_digest 27 = .ok (.lload_n 1, 1) := by decide +kernel
theorem dX8_digest_28 : decode cX8_digest 28 = .ok (.invokevirtual 399, 3) := by decide +kernel
theorem dX8_digest_31 : decode cX8_digest 31 = .ok (.lstore_n 1, 1) := by decide +kernel
theorem dX8_digest_32 : decode cX8_digest 32 = .ok (.lload_n 1, 1) := by decide +kernel
theorem dX8_digest_33 : decode cX8_digest 33 = .ok (.aload_n 0, 1) := by decide +kernel
theorem dX8_digest_34 : decode cX8_digest 34 = .ok (.getfield 12, 3) := by decide +kernel
theorem dX8_digest_37 : decode cX8_digest 37 = .ok (.getfield 44, 3) := by decide +kernel
theorem dX8_digest_40 : decode cX8_digest 40 = .ok (.getfield 81, 3) := by decide +kernel
theorem dX8_digest_43 : decode cX8_digest 43 = .ok (.iconst (-1), 1) := by decide +kernel
theorem dX8_digest_44 : decode cX8_digest 44 = .ok (.if_icmp .ne 13, 3) := by decide +kernel
theorem dX8_digest_47 : decode cX8_digest 47 = .ok (.aload_n 0, 1) := by decide +kernel
theorem dX8_digest_48 : decode cX8_digest 48 = .ok (.invokevirtual 348, 3) := by decide +kernel
theorem dX8_digest_51 : decode cX8_digest 51 = .ok (.iconst 1, 1) := by decide +kernel
theorem dX8_digest_52 : decode cX8_digest 52 = .ok (.iadd, 1) := by decide +kernel
theorem dX8_digest_53 : decode cX8_digest 53 = .ok (.i2l, 1) := by decide +kernel
theorem dX8_digest_54 : decode cX8_digest 54 = .ok (.goto 4, 3) := by decide +kernel
theorem dX8_digest_57 : decode cX8_digest 57 = .ok (.lconst 0, 1) := by decide +kernel
theorem dX8_digest_58 : decode cX8_digest 58 = .ok (.invokestatic 402, 3) := by decide +kernel
theorem dX8_digest_61 : decode cX8_digest 61 = .ok (.lstore_n 1, 1) := by decide +kernel
theorem dX8_digest_62 : decode cX8_digest 62 = .ok (.aload_n 0, 1) := by decide +kernel
theorem dX8_digest_63 : decode cX8_digest 63 = .ok (.lload_n 1, 1) := by decide +kernel
theorem dX8_digest_64 : decode cX8_digest 64 = .ok (.invokevirtual 406, 3) := by decide +kernel
theorem dX8_digest_67 : decode cX8_digest 67 = .ok (.lstore_n 1, 1) := by decide +kernel
theorem dX8_digest_68 : decode cX8_digest 68 = .ok (.aload_n 0, 1) := by decide +kernel
theorem dX8_digest_69 : decode cX8_digest 69 = .ok (.lload_n 1, 1) := by decide +kernel
theorem dX8_digest_70 : decode cX8_digest 70 = .ok (.invokevirtual 409, 3) := by decide +kernel
theorem dX8_digest_73 : decode cX8_digest 73 = .ok (.lreturn, 1) := by decide +kernel
theorem dX8_requireHeight_0 : decode cX8_requireHeight 0 = .ok (.iload_n 1, 1) := by decide +kernel
theorem dX8_requireHeight_1 : decode cX8_requireHeight 1 = .ok (.iconst 1, 1) := by decide +kernel
theorem dX8_requireHeight_2 : decode cX8_requireHeight 2 = .ok (.if_icmp .lt 8, 3) := by decide +kernel
theorem dX8_requireHeight_5 : decode cX8_requireHeight 5 = .ok (.iload_n 1, 1) := by decide +kernel
theorem dX8_requireHeight_6 : decode cX8_requireHeight 6 = .ok (.iconst 4, 1) := by decide +kernel
theorem dX8_requireHeight_7 : decode cX8_requireHeight 7 = .ok (.if_icmp .le 14, 3) := by decide +kernel
theorem dX8_requireHeight_10 : decode cX8_requireHeight 10 = .ok (.new 174, 3) := by decide +kernel
theorem dX8_requireHeight_13 : decode cX8_requireHeight 13 = .ok (.dup, 1) := by decide +kernel
theorem dX8_requireHeight_14 : decode cX8_requireHeight 14 = .ok (.ldc_w 412, 3) := by decide +kernel
theorem dX8_requireHeight_17 : decode cX8_requireHeight 17 = .ok (.invokespecial 178, 3) := by decide +kernel
theorem dX8_requireHeight_20 : decode cX8_requireHeight 20 = .ok (.athrow, 1) := by decide +kernel
theorem dX8_requireHeight_21 : decode cX8_requireHeight 21 = .ok (.return_, 1) := by decide +kernel
theorem dX8_requireMany_0 : decode cX8_requireMany 0 = .ok (.iload_n 1, 1) := by decide +kernel
theorem dX8_requireMany_1 : decode cX8_requireMany 1 = .ok (.iconst 1, 1) := by decide +kernel
theorem dX8_requireMany_2 : decode cX8_requireMany 2 = .ok (.if_icmp .lt 9, 3) := by decide +kernel
theorem dX8_requireMany_5 : decode cX8_requireMany 5 = .ok (.iload_n 1, 1) := by decide +kernel
theorem dX8_requireMany_6 : decode cX8_requireMany 6 = .ok (.bipush 20, 2) := by decide +kernel
theorem dX8_requireMany_8 : decode cX8_requireMany 8 = .ok (.if_icmp .le 14, 3) := by decide +kernel
theorem dX8_requireMany_11 : decode cX8_requireMany 11 = .ok (.new 174, 3) := by decide +kernel
theorem dX8_requireMany_14 : decode cX8_requireMany 14 = .ok (.dup, 1) := by decide +kernel
theorem dX8_requireMany_15 : decode cX8_requireMany 15 = .ok (.ldc_w 414, 3) := by decide +kernel
theorem dX8_requireMany_18 : decode cX8_requireMany 18 = .ok (.invokespecial 178, 3) := by decide +kernel
theorem dX8_requireMany_21 : decode cX8_requireMany 21 = .ok (.athrow, 1) := by decide +kernel
theorem dX8_requireMany_22 : decode cX8_requireMany 22 = .ok (.return_, 1) := by decide +kernel
theorem dX8_requireSnapshotSlot_0 : decode cX8_requireSnapshotSlot 0 = .ok (.iload_n 1, 1) := by decide +kernel
theorem dX8_requireSnapshotSlot_1 : decode cX8_requireSnapshotSlot 1 = .ok (.ifCond .lt 8, 3) := by decide +kernel
theorem dX8_requireSnapshotSlot_4 : decode cX8_requireSnapshotSlot 4 = .ok (.iload_n 1, 1) := by decide +kernel
theorem dX8_requireSnapshotSlot_5 : decode cX8_requireSnapshotSlot 5 = .ok (.iconst 2, 1) := by decide +kernel
theorem dX8_requireSnapshotSlot_6 : decode cX8_requireSnapshotSlot 6 = .ok (.if_icmp .lt 14, 3) := by decide +kernel
theorem dX8_requireSnapshotSlot_9 : decode cX8_requireSnapshotSlot 9 = .ok (.new 174, 3) := by decide +kernel
theorem dX8_requireSnapshotSlot_12 : decode cX8_requireSnapshotSlot 12 = .ok (.dup, 1) := by decide +kernel
theorem dX8_requireSnapshotSlot_13 : decode cX8_requireSnapshotSlot 13 = .ok (.ldc_w 416, 3) := by decide +kernel
theorem dX8_requireSnapshotSlot_16 : decode cX8_requireSnapshotSlot 16 = .ok (.invokespecial 178, 3) := by decide +kernel
theorem dX8_requireSnapshotSlot_19 : decode cX8_requireSnapshotSlot 19 = .ok (.athrow, 1) := by decide +kernel
theorem dX8_requireSnapshotSlot_20 : decode cX8_requireSnapshotSlot 20 = .ok (.return_, 1) := by decide +kernel
theorem dX8_requireShelf_0 : decode cX8_requireShelf 0 = .ok (.iload_n 1, 1) := by decide +kernel
theorem dX8_requireShelf_1 : decode cX8_requireShelf 1 = .ok (.ifCond .lt 17, 3) := by decide +kernel
theorem dX8_requireShelf_4 : decode cX8_requireShelf 4 = .ok (.iload_n 1, 1) := by decide +kernel
theorem dX8_requireShelf_5 : decode cX8_requireShelf 5 = .ok (.aload_n 0, 1) := by decide +kernel
theorem dX8_requireShelf_6 : decode cX8_requireShelf 6 = .ok (.getfield 12, 3) := by decide +kernel
theorem dX8_requireShelf_9 : decode cX8_requireShelf 9 = .ok (.getfield 44, 3) := by decide +kernel
theorem dX8_requireShelf_12 : decode cX8_requireShelf 12 = .ok (.getfield 48, 3) := by decide +kernel
theorem dX8_requireShelf_15 : decode cX8_requireShelf 15 = .ok (.if_icmp .lt 14, 3) := by decide +kernel
theorem dX8_requireShelf_18 : decode cX8_requireShelf 18 = .ok (.new 418, 3) := by decide +kernel
theorem dX8_requireShelf_21 : decode cX8_requireShelf 21 = .ok (.dup, 1) := by decide +kernel
theorem dX8_requireShelf_22 : decode cX8_requireShelf 22 = .ok (.ldc_w 420, 3) := by decide +kernel
theorem dX8_requireShelf_25 : decode cX8_requireShelf 25 = .ok (.invokespecial 422, 3) := by decide +kernel
theorem dX8_requireShelf_28 : decode cX8_requireShelf 28 = .ok (.athrow, 1) := by decide +kernel
theorem dX8_requireShelf_29 : decode cX8_requireShelf 29 = .ok (.return_, 1) := by decide +kernel
theorem dX8_requireSide_0 : decode cX8_requireSide 0 = .ok (.iload_n 1, 1) := by decide +kernel
theorem dX8_requireSide_1 : decode cX8_requireSide 1 = .ok (.ifCond .lt 8, 3) := by decide +kernel
theorem dX8_requireSide_4 : decode cX8_requireSide 4 = .ok (.iload_n 1, 1) := by decide +kernel
theorem dX8_requireSide_5 : decode cX8_requireSide 5 = .ok (.iconst 2, 1) := by decide +kernel
theorem dX8_requireSide_6 : decode cX8_requireSide 6 = .ok (.if_icmp .lt 14, 3) := by decide +kernel
theorem dX8_requireSide_9 : decode cX8_requireSide 9 = .ok (.new 418, 3) := by decide +kernel
theorem dX8_requireSide_12 : decode cX8_requireSide 12 = .ok (.dup, 1) := by decide +kernel
theorem dX8_requireSide_13 : decode cX8_requireSide 13 = .ok (.ldc_w 423, 3) := by decide +kernel
theorem dX8_requireSide_16 : decode cX8_requireSide 16 = .ok (.invokespecial 422, 3) := by decide +kernel
theorem dX8_requireSide_19 : decode cX8_requireSide 19 = .ok (.athrow, 1) := by decide +kernel
theorem dX8_requireSide_20 : decode cX8_requireSide 20 = .ok (.return_, 1) := by decide +kernel
set_option maxRecDepth 20000 in
theorem ggX8_requireSlot_X8_requireSide : GoodIn wsX8_requireSlot wsX8_requireSide := goodIn_ca (goodIn_r _ [7, 1, 2] (by decide +kernel) (by decide +kernel)) (goodIn_sub (fun _ h => List.mem_cons_of_mem _ (List.mem_append_right _ h)) (by decide +kernel))
set_option maxRecDepth 20000 in
theorem gX8_requireSlot_X8_requireSide : GoodIn wsX8_requireSlot (wsV RX8 292 RX8 yX8_requireSide wsX8_requireSide) := goodIn_app (goodIn_of _ (by decide +kernel)) ggX8_requireSlot_X8_requireSide
theorem dX8_requireSlot_0 : decode cX8_requireSlot 0 = .ok (.aload_n 0, 1) := by decide +kernel
theorem dX8_requireSlot_1 : decode cX8_requireSlot 1 = .ok (.iload_n 1, 1) := by decide +kernel
theorem dX8_requireSlot_2 : decode cX8_requireSlot 2 = .ok (.invokevirtual 292, 3) := by decide +kernel
theorem dX8_requireSlot_5 : decode cX8_requireSlot 5 = .ok (.iload_n 2, 1) := by decide +kernel
theorem dX8_requireSlot_6 : decode cX8_requireSlot 6 = .ok (.ifCond .lt 9, 3) := by decide +kernel
theorem dX8_requireSlot_9 : decode cX8_requireSlot 9 = .ok (.iload_n 2, 1) := by decide +kernel
theorem dX8_requireSlot_10 : decode cX8_requireSlot 10 = .ok (.bipush 20, 2) := by decide +kernel
theorem dX8_requireSlot_12 : decode cX8_requireSlot 12 = .ok (.if_icmp .lt 14, 3) := by decide +kernel
theorem dX8_requireSlot_15 : decode cX8_requireSlot 15 = .ok (.new 418, 3) := by decide +kernel
theorem dX8_requireSlot_18 : decode cX8_requireSlot 18 = .ok (.dup, 1) := by decide +kernel
theorem dX8_requireSlot_19 : decode cX8_requireSlot 19 = .ok (.ldc_w 425, 3) := by decide +kernel
theorem dX8_requireSlot_22 : decode cX8_requireSlot 22 = .ok (.invokespecial 422, 3) := by decide +kernel
theorem dX8_requireSlot_25 : decode cX8_requireSlot 25 = .ok (.athrow, 1) := by decide +kernel
theorem dX8_requireSlot_26 : decode cX8_requireSlot 26 = .ok (.return_, 1) := by decide +kernel
theorem dX8_requireKind_0 : decode cX8_requireKind 0 = .ok (.iload_n 1, 1) := by decide +kernel
theorem dX8_requireKind_1 : decode cX8_requireKind 1 = .ok (.ifCond .lt 9, 3) := by decide +kernel
theorem dX8_requireKind_4 : decode cX8_requireKind 4 = .ok (.iload_n 1, 1) := by decide +kernel
theorem dX8_requireKind_5 : decode cX8_requireKind 5 = .ok (.bipush 10, 2) := by decide +kernel
theorem dX8_requireKind_7 : decode cX8_requireKind 7 = .ok (.if_icmp .lt 14, 3) := by decide +kernel
theorem dX8_requireKind_10 : decode cX8_requireKind 10 = .ok (.new 418, 3) := by decide +kernel
theorem dX8_requireKind_13 : decode cX8_requireKind 13 = .ok (.dup, 1) := by decide +kernel
theorem dX8_requireKind_14 : decode cX8_requireKind 14 = .ok (.ldc_w 427, 3) := by decide +kernel
theorem dX8_requireKind_17 : decode cX8_requireKind 17 = .ok (.invokespecial 422, 3) := by decide +kernel
theorem dX8_requireKind_20 : decode cX8_requireKind 20 = .ok (.athrow, 1) := by decide +kernel
theorem dX8_requireKind_21 : decode cX8_requireKind 21 = .ok (.return_, 1) := by decide +kernel
theorem dX8_requireOrder_0 : decode cX8_requireOrder 0 = .ok (.iload_n 1, 1) := by decide +kernel
theorem dX8_requireOrder_1 : decode cX8_requireOrder 1 = .ok (.ifCond .lt 17, 3) := by decide +kernel
theorem dX8_requireOrder_4 : decode cX8_requireOrder 4 = .ok (.iload_n 1, 1) := by decide +kernel
theorem dX8_requireOrder_5 : decode cX8_requireOrder 5 = .ok (.aload_n 0, 1) := by decide +kernel
theorem dX8_requireOrder_6 : decode cX8_requireOrder 6 = .ok (.getfield 12, 3) := by decide +kernel
theorem dX8_requireOrder_9 : decode cX8_requireOrder 9 = .ok (.getfield 179, 3) := by decide +kernel
theorem dX8_requireOrder_12 : decode cX8_requireOrder 12 = .ok (.getfield 183, 3) := by decide +kernel
theorem dX8_requireOrder_15 : decode cX8_requireOrder 15 = .ok (.if_icmp .lt 14, 3) := by decide +kernel
theorem dX8_requireOrder_18 : decode cX8_requireOrder 18 = .ok (.new 418, 3) := by decide +kernel
theorem dX8_requireOrder_21 : decode cX8_requireOrder 21 = .ok (.dup, 1) := by decide +kernel
theorem dX8_requireOrder_22 : decode cX8_requireOrder 22 = .ok (.ldc_w 429, 3) := by decide +kernel
theorem dX8_requireOrder_25 : decode cX8_requireOrder 25 = .ok (.invokespecial 422, 3) := by decide +kernel
theorem dX8_requireOrder_28 : decode cX8_requireOrder 28 = .ok (.athrow, 1) := by decide +kernel
theorem dX8_requireOrder_29 : decode cX8_requireOrder 29 = .ok (.return_, 1) := by decide +kernel
theorem dX8_requireTrip_0 : decode cX8_requireTrip 0 = .ok (.iload_n 1, 1) := by decide +kernel
theorem dX8_requireTrip_1 : decode cX8_requireTrip 1 = .ok (.ifCond .lt 17, 3) := by decide +kernel
theorem dX8_requireTrip_4 : decode cX8_requireTrip 4 = .ok (.iload_n 1, 1) := by decide +kernel
theorem dX8_requireTrip_5 : decode cX8_requireTrip 5 = .ok (.aload_n 0, 1) := by decide +kernel
theorem dX8_requireTrip_6 : decode cX8_requireTrip 6 = .ok (.getfield 12, 3) := by decide +kernel
theorem dX8_requireTrip_9 : decode cX8_requireTrip 9 = .ok (.getfield 232, 3) := by decide +kernel
theorem dX8_requireTrip_12 : decode cX8_requireTrip 12 = .ok (.getfield 304, 3) := by decide +kernel
theorem dX8_requireTrip_15 : decode cX8_requireTrip 15 = .ok (.if_icmp .lt 14, 3) := by decide +kernel
theorem dX8_requireTrip_18 : decode cX8_requireTrip 18 = .ok (.new 418, 3) := by decide +kernel
theorem dX8_requireTrip_21 : decode cX8_requireTrip 21 = .ok (.dup, 1) := by decide +kernel
theorem dX8_requireTrip_22 : decode cX8_requireTrip 22 = .ok (.ldc_w 431, 3) := by decide +kernel
theorem dX8_requireTrip_25 : decode cX8_requireTrip 25 = .ok (.invokespecial 422, 3) := by decide +kernel
theorem dX8_requireTrip_28 : decode cX8_requireTrip 28 = .ok (.athrow, 1) := by decide +kernel
theorem dX8_requireTrip_29 : decode cX8_requireTrip 29 = .ok (.return_, 1) := by decide +kernel
theorem dX8_requireEmptyWindow_0 : decode cX8_requireEmptyWindow 0 = .ok (.aload_n 0, 1) := by decide +kernel
theorem dX8_requireEmptyWindow_1 : decode cX8_requireEmptyWindow 1 = .ok (.getfield 12, 3) := by decide +kernel
theorem dX8_requireEmptyWindow_4 : decode cX8_requireEmptyWindow 4 = .ok (.getfield 44, 3) := by decide +kernel
theorem dX8_requireEmptyWindow_7 : decode cX8_requireEmptyWindow 7 = .ok (.getfield 81, 3) := by decide +kernel
theorem dX8_requireEmptyWindow_10 : decode cX8_requireEmptyWindow 10 = .ok (.iconst (-1), 1) := by decide +kernel
theorem dX8_requireEmptyWindow_11 : decode cX8_requireEmptyWindow 11 = .ok (.if_icmp .eq 14, 3) := by decide +kernel
theorem dX8_requireEmptyWindow_14 : decode cX8_requireEmptyWindow 14 = .ok (.new 54, 3) := by decide +kernel
theorem dX8_requireEmptyWindow_17 : decode cX8_requireEmptyWindow 17 = .ok (.dup, 1) := by decide +kernel
theorem dX8_requireEmptyWindow_18 : decode cX8_requireEmptyWindow 18 = .ok (.ldc_w 433, 3) := by decide +kernel
theorem dX8_requireEmptyWindow_21 : decode cX8_requireEmptyWindow 21 = .ok (.invokespecial 58, 3) := by decide +kernel
theorem dX8_requireEmptyWindow_24 : decode cX8_requireEmptyWindow 24 = .ok (.athrow, 1) := by decide +kernel
theorem dX8_requireEmptyWindow_25 : decode cX8_requireEmptyWindow 25 = .ok (.return_, 1) := by decide +kernel
theorem dX8_requireShelfAtWindow_0 : decode cX8_requireShelfAtWindow 0 = .ok (.aload_n 0, 1) := by decide +kernel
theorem dX8_requireShelfAtWindow_1 : decode cX8_requireShelfAtWindow 1 = .ok (.getfield 12, 3) := by decide +kernel
theorem dX8_requireShelfAtWindow_4 : decode cX8_requireShelfAtWindow 4 = .ok (.getfield 44, 3) := by decide +kernel
theorem dX8_requireShelfAtWindow_7 : decode cX8_requireShelfAtWindow 7 = .ok (.getfield 81, 3) := by decide +kernel
theorem dX8_requireShelfAtWindow_10 : decode cX8_requireShelfAtWindow 10 = .ok (.ifCond .lt 26, 3) := by decide +kernel
theorem dX8_requireShelfAtWindow_13 : decode cX8_requireShelfAtWindow 13 = .ok (.aload_n 0, 1) := by decide +kernel
theorem dX8_requireShelfAtWindow_14 : decode cX8_requireShelfAtWindow 14 = .ok (.getfield 12, 3) := by decide +kernel
theorem dX8_requireShelfAtWindow_17 : decode cX8_requireShelfAtWindow 17 = .ok (.getfield 44, 3) := by decide +kernel
theorem dX8_requireShelfAtWindow_20 : decode cX8_requireShelfAtWindow 20 = .ok (.getfield 81, 3) := by decide +kernel
theorem dX8_requireShelfAtWindow_23 : decode cX8_requireShelfAtWindow 23 = .ok (.aload_n 0, 1) := by decide +kernel
theorem dX8_requireShelfAtWindow_24 : decode cX8_requireShelfAtWindow 24 = .ok (.getfield 12, 3) := by decide +kernel
theorem dX8_requireShelfAtWindow_27 : decode cX8_requireShelfAtWindow 27 = .ok (.getfield 44, 3) := by decide +kernel
theorem dX8_requireShelfAtWindow_30 : decode cX8_requireShelfAtWindow 30 = .ok (.getfield 48, 3) := by decide +kernel
theorem dX8_requireShelfAtWindow_33 : decode cX8_requireShelfAtWindow 33 = .ok (.if_icmp .lt 14, 3) := by decide +kernel
theorem dX8_requireShelfAtWindow_36 : decode cX8_requireShelfAtWindow 36 = .ok (.new 54, 3) := by decide +kernel
theorem dX8_requireShelfAtWindow_39 : decode cX8_requireShelfAtWindow 39 = .ok (.dup, 1) := by decide +kernel
theorem dX8_requireShelfAtWindow_40 : decode cX8_requireShelfAtWindow 40 = .ok (.ldc_w 435, 3) := by decide +kernel
theorem dX8_requireShelfAtWindow_43 : decode cX8_requireShelfAtWindow 43 = .ok (.invokespecial 58, 3) := by decide +kernel
theorem dX8_requireShelfAtWindow_46 : decode cX8_requireShelfAtWindow 46 = .ok (.athrow, 1) := by decide +kernel
theorem dX8_requireShelfAtWindow_47 : decode cX8_requireShelfAtWindow 47 = .ok (.return_, 1) := by decide +kernel
theorem dX8_requireSomeShelf_0 : decode cX8_requireSomeShelf 0 = .ok (.aload_n 0, 1) := by decide +kernel
theorem dX8_requireSomeShelf_1 : decode cX8_requireSomeShelf 1 = .ok (.getfield 12, 3) := by decide +kernel
theorem dX8_requireSomeShelf_4 : decode cX8_requireSomeShelf 4 = .ok (.getfield 44, 3) := by decide +kernel
theorem dX8_requireSomeShelf_7 : decode cX8_requireSomeShelf 7 = .ok (.getfield 48, 3) := by decide +kernel
theorem dX8_requireSomeShelf_10 : decode cX8_requireSomeShelf 10 = .ok (.ifCond .ne 14, 3) := by decide +kernel
theorem dX8_requireSomeShelf_13 : decode cX8_requireSomeShelf 13 = .ok (.new 54, 3) := by decide +kernel
theorem dX8_requireSomeShelf_16 : decode cX8_requireSomeShelf 16 = .ok (.dup, 1) := by decide +kernel
theorem dX8_requireSomeShelf_17 : decode cX8_requireSomeShelf 17 = .ok (.ldc_w 437, 3) := by decide +kernel
theorem dX8_requireSomeShelf_20 : decode cX8_requireSomeShelf 20 = .ok (.invokespecial 58, 3) := by decide +kernel
theorem dX8_requireSomeShelf_23 : decode cX8_requireSomeShelf 23 = .ok (.athrow, 1) := by decide +kernel
theorem dX8_requireSomeShelf_24 : decode cX8_requireSomeShelf 24 = .ok (.return_, 1) := by decide +kernel
set_option maxRecDepth 20000 in
theorem ggX8_requireServable_X6_isServable : GoodIn wsX8_requireServable wsX6_isServable := goodIn_r _ [7, 8, 9, 10, 11, 5, 12, 13, 14, 15, 16, 17, 18, 19, 20, 21, 22, 23, 30, 31, 32, 33, 34, 35, 36, 37, 38, 39, 40, 41, 42] (by decide +kernel) (by decide +kernel)
set_option maxRecDepth 20000 in
theorem gX8_requireServable_X6_isServable_n329 : GoodIn wsX8_requireServable (wsX6_isServable) := ggX8_requireServable_X6_isServable
theorem dX8_requireServable_0 : decode cX8_requireServable 0 = .ok (.aload_n 0, 1) := by decide +kernel
theorem dX8_requireServable_1 : decode cX8_requireServable 1 = .ok (.getfield 12, 3) := by decide +kernel
theorem dX8_requireServable_4 : decode cX8_requireServable 4 = .ok (.iload_n 1, 1) := by decide +kernel
theorem dX8_requireServable_5 : decode cX8_requireServable 5 = .ok (.invokevirtual 329, 3) := by decide +kernel
theorem dX8_requireServable_8 : decode cX8_requireServable 8 = .ok (.ifCond .ne 14, 3) := by decide +kernel
theorem dX8_requireServable_11 : decode cX8_requireServable 11 = .ok (.new 54, 3) := by decide +kernel
theorem dX8_requireServable_14 : decode cX8_requireServable 14 = .ok (.dup, 1) := by decide +kernel
theorem dX8_requireServable_15 : decode cX8_requireServable 15 = .ok (.ldc_w 439, 3) := by decide +kernel
theorem dX8_requireServable_18 : decode cX8_requireServable 18 = .ok (.invokespecial 58, 3) := by decide +kernel
theorem dX8_requireServable_21 : decode cX8_requireServable 21 = .ok (.athrow, 1) := by decide +kernel
theorem dX8_requireServable_22 : decode cX8_requireServable 22 = .ok (.return_, 1) := by decide +kernel
set_option maxRecDepth 20000 in
theorem ggX8_requirePackable_X8_requireEmptyWindow : GoodIn wsX8_requirePackable wsX8_requireEmptyWindow := goodIn_ca (goodIn_r _ [9, 1, 2, 3, 30, 31, 32, 33, 34, 35, 36, 37, 38, 39, 40, 41, 42, 43, 44, 45, 46] (by decide +kernel) (by decide +kernel)) (goodIn_sub (fun _ h => List.mem_cons_of_mem _ (List.mem_append_right _ h)) (by decide +kernel))
set_option maxRecDepth 20000 in
theorem gX8_requirePackable_X8_requireEmptyWindow : GoodIn wsX8_requirePackable (wsV RX8 61 RX8 yX8_requireEmptyWindow wsX8_requireEmptyWindow) := goodIn_app (goodIn_of _ (by decide +kernel)) ggX8_requirePackable_X8_requireEmptyWindow
set_option maxRecDepth 20000 in
theorem ggX8_requirePackable_X7_findPacked : GoodIn wsX8_requirePackable wsX7_findPacked := goodIn_r _ [13, 14, 15, 16, 17, 18, 11, 19, 20, 21, 22, 23, 24, 25, 26, 27, 28, 29, 41, 42, 43, 44, 45, 46] (by decide +kernel) (by decide +kernel)
set_option maxRecDepth 20000 in
theorem gX8_requirePackable_X7_findPacked_n441 : GoodIn wsX8_requirePackable (wsX7_findPacked) := ggX8_requirePackable_X7_findPacked
theorem dX8_requirePackable_0 : decode cX8_requirePackable 0 = .ok (.aload_n 0, 1) := by decide +kernel
theorem dX8_requirePackable_1 : decode cX8_requirePackable 1 = .ok (.invokevirtual 61, 3) := by decide +kernel
theorem dX8_requirePackable_4 : decode cX8_requirePackable 4 = .ok (.aload_n 0, 1) := by decide +kernel
theorem dX8_requirePackable_5 : decode cX8_requirePackable 5 = .ok (.getfield 12, 3) := by decide +kernel
theorem dX8_requirePackable_8 : decode cX8_requirePackable 8 = .ok (.getfield 44, 3) := by decide +kernel
theorem dX8_requirePackable_11 : decode cX8_requirePackable 11 = .ok (.aload_n 0, 1) := by decide +kernel
theorem dX8_requirePackable_12 : decode cX8_requirePackable 12 = .ok (.getfield 33, 3) := by decide +kernel
theorem dX8_requirePackable_15 : decode cX8_requirePackable 15 = .ok (.invokevirtual 441, 3) := by decide +kernel
theorem dX8_requirePackable_18 : decode cX8_requirePackable 18 = .ok (.ifCond .ne 14, 3) := by decide +kernel
theorem dX8_requirePackable_21 : decode cX8_requirePackable 21 = .ok (.new 54, 3) := by decide +kernel
theorem dX8_requirePackable_24 : decode cX8_requirePackable 24 = .ok (.dup, 1) := by decide +kernel
theorem dX8_requirePackable_25 : decode cX8_requirePackable 25 = .ok (.ldc_w 445, 3) := by decide +kernel
theorem dX8_requirePackable_28 : decode cX8_requirePackable 28 = .ok (.invokespecial 58, 3) := by decide +kernel
theorem dX8_requirePackable_31 : decode cX8_requirePackable 31 = .ok (.athrow, 1) := by decide +kernel
theorem dX8_requirePackable_32 : decode cX8_requirePackable 32 = .ok (.return_, 1) := by decide +kernel
set_option maxRecDepth 20000 in
theorem ggX8_fewestFound_X3_wantedOf : GoodIn wsX8_fewestFound wsX3_wantedOf := goodIn_r _ [6, 7, 38, 39] (by decide +kernel) (by decide +kernel)
set_option maxRecDepth 20000 in
theorem gX8_fewestFound_X3_wantedOf_n326 : GoodIn wsX8_fewestFound (wsX3_wantedOf) := ggX8_fewestFound_X3_wantedOf
set_option maxRecDepth 20000 in
theorem ggX8_fewestFound_X8_fewestFrom : GoodIn wsX8_fewestFound wsX8_fewestFrom := goodIn_r _ [11, 12, 13, 10, 14, 15, 16, 17, 18, 19, 20, 21, 22, 23, 24, 25, 26, 8, 9, 40, 41, 42, 43, 44, 45] (by decide +kernel) (by decide +kernel)
set_option maxRecDepth 20000 in
theorem gX8_fewestFound_X8_fewestFrom : GoodIn wsX8_fewestFound (va_wsS RX8 447 yX8_fewestFrom wsX8_fewestFrom) := goodIn_app (goodIn_of _ (by decide +kernel)) ggX8_fewestFound_X8_fewestFrom
theorem dX8_fewestFound_0 : decode cX8_fewestFound 0 = .ok (.iconst 0, 1) := by decide +kernel
theorem dX8_fewestFound_1 : decode cX8_fewestFound 1 = .ok (.istore_n 2, 1) := by decide +kernel
theorem dX8_fewestFound_2 : decode cX8_fewestFound 2 = .ok (.iload_n 2, 1) := by decide +kernel
theorem dX8_fewestFound_3 : decode cX8_fewestFound 3 = .ok (.bipush 10, 2) := by decide +kernel
theorem dX8_fewestFound_5 : decode cX8_fewestFound 5 = .ok (.if_icmp .ge 27, 3) := by decide +kernel
theorem dX8_fewestFound_8 : decode cX8_fewestFound 8 = .ok (.aload_n 0, 1) := by decide +kernel
theorem dX8_fewestFound_9 : decode cX8_fewestFound 9 = .ok (.getfield 37, 3) := by decide +kernel
theorem dX8_fewestFound_12 : decode cX8_fewestFound 12 = .ok (.iload_n 2, 1) := by decide +kernel
theorem dX8_fewestFound_13 : decode cX8_fewestFound 13 = .ok (.aload_n 0, 1) := by decide +kernel
theorem dX8_fewestFound_14 : decode cX8_fewestFound 14 = .ok (.getfield 12, 3) := by decide +kernel
theorem dX8_fewestFound_17 : decode cX8_fewestFound 17 = .ok (.getfield 179, 3) := by decide +kernel
theorem dX8_fewestFound_20 : decode cX8_fewestFound 20 = .ok (.iload_n 1, 1) := by decide +kernel
theorem dX8_fewestFound_21 : decode cX8_fewestFound 21 = .ok (.iload_n 2, 1) := by decide +kernel
theorem dX8_fewestFound_22 : decode cX8_fewestFound 22 = .ok (.invokevirtual 326, 3) := by decide +kernel
theorem dX8_fewestFound_25 : decode cX8_fewestFound 25 = .ok (.iastore, 1) := by decide +kernel
theorem dX8_fewestFound_26 : decode cX8_fewestFound 26 = .ok (.iinc 2 1, 3) := by decide +kernel
theorem dX8_fewestFound_29 : decode cX8_fewestFound 29 = .ok (.goto (-27), 3) := by decide +kernel
theorem dX8_fewestFound_32 : decode cX8_fewestFound 32 = .ok (.aload_n 0, 1) := by decide +kernel
theorem dX8_fewestFound_33 : decode cX8_fewestFound 33 = .ok (.getfield 12, 3) := by decide +kernel
theorem dX8_fewestFound_36 : decode cX8_fewestFound 36 = .ok (.getfield 44, 3) := by decide +kernel
theorem dX8_fewestFound_39 : decode cX8_fewestFound 39 = .ok (.aload_n 0, 1) := by decide +kernel
theorem dX8_fewestFound_40 : decode cX8_fewestFound 40 = .ok (.getfield 37, 3) := by decide +kernel
theorem dX8_fewestFound_43 : decode cX8_fewestFound 43 = .ok (.iconst 0, 1) := by decide +kernel
theorem dX8_fewestFound_44 : decode cX8_fewestFound 44 = .ok (.iconst 0, 1) := by decide +kernel
theorem dX8_fewestFound_45 : decode cX8_fewestFound 45 = .ok (.bipush 13, 2) := by decide +kernel
theorem dX8_fewestFound_47 : decode cX8_fewestFound 47 = .ok (.invokestatic 447, 3) := by decide +kernel
theorem dX8_fewestFound_50 : decode cX8_fewestFound 50 = .ok (.ireturn, 1) := by decide +kernel
set_option maxRecDepth 20000 in
theorem ggX8_fewestFrom_X8_isLacking : GoodIn wsX8_fewestFrom wsX8_isLacking := goodIn_r _ [4] (by decide +kernel) (by decide +kernel)
set_option maxRecDepth 20000 in
theorem gX8_fewestFrom_X8_isLacking : GoodIn wsX8_fewestFrom (va_wsS RX8 451 yX8_isLacking wsX8_isLacking) := goodIn_app (goodIn_of _ (by decide +kernel)) ggX8_fewestFrom_X8_isLacking
set_option maxRecDepth 20000 in
theorem ggX8_fewestFrom_X7_helps : GoodIn wsX8_fewestFrom wsX7_helps := goodIn_r _ [8, 9, 10, 11, 6, 12, 13, 19, 20, 21, 22, 23, 24] (by decide +kernel) (by decide +kernel)
set_option maxRecDepth 20000 in
theorem gX8_fewestFrom_X7_helps_n454 : GoodIn wsX8_fewestFrom (wsX7_helps) := ggX8_fewestFrom_X7_helps
set_option maxRecDepth 20000 in
theorem ggX8_fewestFrom_X7_lend : GoodIn wsX8_fewestFrom wsX7_lend := goodIn_r _ [16, 9, 10, 11, 6, 12, 13, 19, 20, 21, 22, 23, 24] (by decide +kernel) (by decide +kernel)
set_option maxRecDepth 20000 in
theorem gX8_fewestFrom_X7_lend_n458 : GoodIn wsX8_fewestFrom (wsX7_lend) := ggX8_fewestFrom_X7_lend
set_option maxRecDepth 20000 in
theorem ggX8_fewestFrom_X8_fewestFrom : GoodIn wsX8_fewestFrom wsX8_fewestFrom := goodIn_r _ [0, 1, 2, 3, 4, 5, 6, 7, 8, 9, 10, 11, 12, 13, 14, 15, 16, 17, 18, 19, 20, 21, 22, 23, 24] (by decide +kernel) (by decide +kernel)
set_option maxRecDepth 20000 in
theorem gX8_fewestFrom_X8_fewestFrom : GoodIn wsX8_fewestFrom (va_wsS RX8 447 yX8_fewestFrom wsX8_fewestFrom) := goodIn_app (goodIn_of _ (by decide +kernel)) ggX8_fewestFrom_X8_fewestFrom
theorem dX8_fewestFrom_0 : decode cX8_fewestFrom 0 = .ok (.aload_n 1, 1) := by decide +kernel
theorem dX8_fewestFrom_1 : decode cX8_fewestFrom 1 = .ok (.invokestatic 451, 3) := by decide +kernel
theorem dX8_fewestFrom_4 : decode cX8_fewestFrom 4 = .ok (.ifCond .ne 5, 3) := by decide +kernel
theorem dX8_fewestFrom_7 : decode cX8_fewestFrom 7 = .ok (.iload_n 3, 1) := by decide +kernel
theorem dX8_fewestFrom_8 : decode cX8_fewestFrom 8 = .ok (.ireturn, 1) := by decide +kernel
theorem dX8_fewestFrom_9 : decode cX8_fewestFrom 9 = .ok (.iload_n 2, 1) := by decide +kernel
theorem dX8_fewestFrom_10 : decode cX8_fewestFrom 10 = .ok (.aload_n 0, 1) := by decide +kernel
theorem dX8_fewestFrom_11 : decode cX8_fewestFrom 11 = .ok (.getfield 48, 3) := by decide +kernel
theorem dX8_fewestFrom_14 : decode cX8_fewestFrom 14 = .ok (.if_icmp .ge 17, 3) := by decide +kernel
theorem dX8_fewestFrom_17 : decode cX8_fewestFrom 17 = .ok (.iload_n 2, 1) := by decide +kernel
theorem dX8_fewestFrom_18 : decode cX8_fewestFrom 18 = .ok (.bipush 12, 2) := by decide +kernel
theorem dX8_fewestFrom_20 : decode cX8_fewestFrom 20 = .ok (.if_icmp .ge 11, 3) := by decide +kernel
theorem dX8_fewestFrom_23 : decode cX8_fewestFrom 23 = .ok (.iload_n 3, 1) := by decide +kernel
theorem dX8_fewestFrom_24 : decode cX8_fewestFrom 24 = .ok (.iconst 1, 1) := by decide +kernel
theorem dX8_fewestFrom_25 : decode cX8_fewestFrom 25 = .ok (.iadd, 1) := by decide +kernel
theorem dX8_fewestFrom_26 : decode cX8_fewestFrom 26 = .ok (.iload 4, 2) := by decide +kernel
theorem dX8_fewestFrom_28 : decode cX8_fewestFrom 28 = .ok (.if_icmp .lt 6, 3) := by decide +kernel
theorem dX8_fewestFrom_31 : decode cX8_fewestFrom 31 = .ok (.iload 4, 2) := by decide +kernel
theorem dX8_fewestFrom_33 : decode cX8_fewestFrom 33 = .ok (.ireturn, 1) := by decide +kernel
theorem dX8_fewestFrom_34 : decode cX8_fewestFrom 34 = .ok (.iload 4, 2) := by decide +kernel
theorem dX8_fewestFrom_36 : decode cX8_fewestFrom 36 = .ok (.istore 5, 2) := by decide +kernel
theorem dX8_fewestFrom_38 : decode cX8_fewestFrom 38 = .ok (.aload_n 0, 1) := by decide +kernel
theorem dX8_fewestFrom_39 : decode cX8_fewestFrom 39 = .ok (.iload_n 2, 1) := by decide +kernel
theorem dX8_fewestFrom_40 : decode cX8_fewestFrom 40 = .ok (.aload_n 1, 1) := by decide +kernel
theorem dX8_fewestFrom_41 : decode cX8_fewestFrom 41 = .ok (.invokevirtual 454, 3) := by decide +kernel
theorem dX8_fewestFrom_44 : decode cX8_fewestFrom 44 = .ok (.ifCond .eq 32, 3) := by decide +kernel
theorem dX8_fewestFrom_47 : decode cX8_fewestFrom 47 = .ok (.aload_n 0, 1) := by decide +kernel
theorem dX8_fewestFrom_48 : decode cX8_fewestFrom 48 = .ok (.iload_n 2, 1) := by decide +kernel
theorem dX8_fewestFrom_49 : decode cX8_fewestFrom 49 = .ok (.aload_n 1, 1) := by decide +kernel
theorem dX8_fewestFrom_50 : decode cX8_fewestFrom 50 = .ok (.iconst (-1), 1) := by decide +kernel
theorem dX8_fewestFrom_51 : decode cX8_fewestFrom 51 = .ok (.invokevirtual 458, 3) := by decide +kernel
theorem dX8_fewestFrom_54 : decode cX8_fewestFrom 54 = .ok (.aload_n 0, 1) := by decide +kernel
theorem dX8_fewestFrom_55 : decode cX8_fewestFrom 55 = .ok (.aload_n 1, 1) := by decide +kernel
theorem dX8_fewestFrom_56 : decode cX8_fewestFrom 56 = .ok (.iload_n 2, 1) := by decide +kernel
theorem dX8_fewestFrom_57 : decode cX8_fewestFrom 57 = .ok (.iconst 1, 1) := by decide +kernel
theorem dX8_fewestFrom_58 : decode cX8_fewestFrom 58 = .ok (.iadd, 1) := by decide +kernel
theorem dX8_fewestFrom_59 : decode cX8_fewestFrom 59 = .ok (.iload_n 3, 1) := by decide +kernel
theorem dX8_fewestFrom_60 : decode cX8_fewestFrom 60 = .ok (.iconst 1, 1) := by decide +kernel
theorem dX8_fewestFrom_61 : decode cX8_fewestFrom 61 = .ok (.iadd, 1) := by decide +kernel
theorem dX8_fewestFrom_62 : decode cX8_fewestFrom 62 = .ok (.iload 5, 2) := by decide +kernel
theorem dX8_fewestFrom_64 : decode cX8_fewestFrom 64 = .ok (.invokestatic 447, 3) := by decide +kernel
theorem dX8_fewestFrom_67 : decode cX8_fewestFrom 67 = .ok (.istore 5, 2) := by decide +kernel
theorem dX8_fewestFrom_69 : decode cX8_fewestFrom 69 = .ok (.aload_n 0, 1) := by decide +kernel
theorem dX8_fewestFrom_70 : decode cX8_fewestFrom 70 = .ok (.iload_n 2, 1) := by decide +kernel
theorem dX8_fewestFrom_71 : decode cX8_fewestFrom 71 = .ok (.aload_n 1, 1) := by decide +kernel
theorem dX8_fewestFrom_72 : decode cX8_fewestFrom 72 = .ok (.iconst 1, 1) := by decide +kernel
theorem dX8_fewestFrom_73 : decode cX8_fewestFrom 73 = .ok (.invokevirtual 458, 3) := by decide +kernel
theorem dX8_fewestFrom_76 : decode cX8_fewestFrom 76 = .ok (.aload_n 0, 1) := by decide +kernel
theorem dX8_fewestFrom_77 : decode cX8_fewestFrom 77 = .ok (.aload_n 1, 1) := by decide +kernel
theorem dX8_fewestFrom_78 : decode cX8_fewestFrom 78 = .ok (.iload_n 2, 1) := by decide +kernel
theorem dX8_fewestFrom_79 : decode cX8_fewestFrom 79 = .ok (.iconst 1, 1) := by decide +kernel
theorem dX8_fewestFrom_80 : decode cX8_fewestFrom 80 = .ok (.iadd, 1) := by decide +kernel
theorem dX8_fewestFrom_81 : decode cX8_fewestFrom 81 = .ok (.iload_n 3, 1) := by decide +kernel
theorem dX8_fewestFrom_82 : decode cX8_fewestFrom 82 = .ok (.iload 5, 2) := by decide +kernel
theorem dX8_fewestFrom_84 : decode cX8_fewestFrom 84 = .ok (.invokestatic 447, 3) := by decide +kernel
theorem dX8_fewestFrom_87 : decode cX8_fewestFrom 87 = .ok (.ireturn, 1) := by decide +kernel
theorem dX8_isLacking_0 : decode cX8_isLacking 0 = .ok (.iconst 0, 1) := by decide +kernel
theorem dX8_isLacking_1 : decode cX8_isLacking 1 = .ok (.istore_n 1, 1) := by decide +kernel
theorem dX8_isLacking_2 : decode cX8_isLacking 2 = .ok (.iload_n 1, 1) := by decide +kernel
theorem dX8_isLacking_3 : decode cX8_isLacking 3 = .ok (.bipush 10, 2) := by decide +kernel
theorem dX8_isLacking_5 : decode cX8_isLacking 5 = .ok (.if_icmp .ge 23, 3) := by decide +kernel
theorem dX8_isLacking_8 : decode cX8_isLacking 8 = .ok (.iload_n 1, 1) := by decide +kernel
theorem dX8_isLacking_9 : decode cX8_isLacking 9 = .ok (.aload_n 0, 1) := by decide +kernel
theorem dX8_isLacking_10 : decode cX8_isLacking 10 = .ok (.arraylength, 1) := by decide +kernel
theorem dX8_isLacking_11 : decode cX8_isLacking 11 = .ok (.if_icmp .ge 17, 3) := by decide +kernel
theorem dX8_isLacking_14 : decode cX8_isLacking 14 = .ok (.aload_n 0, 1) := by decide +kernel
theorem dX8_isLacking_15 : decode cX8_isLacking 15 = .ok (.iload_n 1, 1) := by decide +kernel
theorem dX8_isLacking_16 : decode cX8_isLacking 16 = .ok (.iaload, 1) := by decide +kernel
theorem dX8_isLacking_17 : decode cX8_isLacking 17 = .ok (.ifCond .le 5, 3) := by decide +kernel
theorem dX8_isLacking_20 : decode cX8_isLacking 20 = .ok (.iconst 1, 1) := by decide +kernel
theorem dX8_isLacking_21 : decode cX8_isLacking 21 = .ok (.ireturn, 1) := by decide +kernel
theorem dX8_isLacking_22 : decode cX8_isLacking 22 = .ok (.iinc 1 1, 3) := by decide +kernel
theorem dX8_isLacking_25 : decode cX8_isLacking 25 = .ok (.goto (-23), 3) := by decide +kernel
theorem dX8_isLacking_28 : decode cX8_isLacking 28 = .ok (.iconst 0, 1) := by decide +kernel
theorem dX8_isLacking_29 : decode cX8_isLacking 29 = .ok (.ireturn, 1) := by decide +kernel
set_option maxRecDepth 20000 in
theorem ggX8_findCheapest_X6_isServable : GoodIn wsX8_findCheapest wsX6_isServable := goodIn_r _ [6, 7, 8, 9, 10, 4, 11, 12, 13, 14, 15, 16, 17, 18, 19, 20, 21, 22, 145, 146, 147, 148, 149, 152, 153, 154, 155, 156, 157, 150, 151] (by decide +kernel) (by decide +kernel)
set_option maxRecDepth 20000 in
theorem gX8_findCheapest_X6_isServable_n329 : GoodIn wsX8_findCheapest (wsX6_isServable) := ggX8_findCheapest_X6_isServable
set_option maxRecDepth 20000 in
theorem ggX8_findCheapest_X6_copyFrom : GoodIn wsX8_findCheapest wsX6_copyFrom := goodIn_r _ [25, 7, 26, 27, 12, 28, 29, 19, 30, 31, 32, 33, 34, 35, 36, 37, 38, 39, 40, 22, 41, 42, 43, 44, 45, 46, 47, 48, 49, 50, 51, 52, 53, 54, 55, 56, 57, 58, 59, 60, 61, 14, 62, 63, 64, 17, 65, 145, 146, 147, 148, 149, 152, 153, 154, 155, 156, 157, 158, 159, 160, 161, 162, 163, 164, 165, 166, 167, 168, 150, 151] (by decide +kernel) (by decide +kernel)
set_option maxRecDepth 20000 in
theorem gX8_findCheapest_X6_copyFrom_n265 : GoodIn wsX8_findCheapest (wsX6_copyFrom) := ggX8_findCheapest_X6_copyFrom
set_option maxRecDepth 20000 in
theorem ggX8_findCheapest_X6_serveOne : GoodIn wsX8_findCheapest wsX6_serveOne := goodIn_r _ [68, 26, 7, 12, 28, 69, 70, 71, 4, 72, 73, 74, 75, 76, 13, 14, 15, 16, 17, 18, 19, 20, 21, 22, 77, 78, 79, 80, 81, 82, 83, 8, 9, 10, 11, 84, 85, 86, 87, 88, 89, 90, 91, 92, 93, 94, 95, 96, 97, 98, 42, 99, 100, 50, 51, 49, 101, 102, 103, 47, 48, 45, 104, 105, 106, 107, 108, 27, 109, 110, 111, 112, 113, 114, 115, 116, 117, 118, 119, 120, 121, 122, 32, 33, 39, 34, 123, 124, 125, 126, 127, 128, 129, 130, 131, 132, 133, 134, 135, 136, 137, 138, 64, 65, 36, 37, 38, 145, 146, 147, 148, 149, 158, 159, 160, 161, 162, 163, 164, 152, 153, 154, 155, 156, 157, 150, 151, 165, 166, 167, 168] (by decide +kernel) (by decide +kernel)
set_option maxRecDepth 20000 in
theorem gX8_findCheapest_X6_serveOne_n213 : GoodIn wsX8_findCheapest (wsX6_serveOne) := ggX8_findCheapest_X6_serveOne
theorem dX8_findCheapest_0 : decode cX8_findCheapest 0 = .ok (.iconst (-1), 1) := by decide +kernel
theorem dX8_findCheapest_1 : decode cX8_findCheapest 1 = .ok (.istore_n 1, 1) := by decide +kernel
theorem dX8_findCheapest_2 : decode cX8_findCheapest 2 = .ok (.iconst 0, 1) := by decide +kernel
theorem dX8_findCheapest_3 : decode cX8_findCheapest 3 = .ok (.istore_n 2, 1) := by decide +kernel
theorem dX8_findCheapest_4 : decode cX8_findCheapest 4 = .ok (.iconst 0, 1) := by decide +kernel
theorem dX8_findCheapest_5 : decode cX8_findCheapest 5 = .ok (.istore_n 3, 1) := by decide +kernel
theorem dX8_findCheapest_6 : decode cX8_findCheapest 6 = .ok (.iload_n 3, 1) := by decide +kernel
theorem dX8_findCheapest_7 : decode cX8_findCheapest 7 = .ok (.aload_n 0, 1) := by decide +kernel
theorem dX8_findCheapest_8 : decode cX8_findCheapest 8 = .ok (.getfield 12, 3) := by decide +kernel
theorem dX8_findCheapest_11 : decode cX8_findCheapest 11 = .ok (.getfield 179, 3) := by decide +kernel
theorem dX8_findCheapest_14 : decode cX8_findCheapest 14 = .ok (.getfield 183, 3) := by decide +kernel
theorem dX8_findCheapest_17 : decode cX8_findCheapest 17 = .ok (.if_icmp .ge 57, 3) := by decide +kernel
theorem dX8_findCheapest_20 : decode cX8_findCheapest 20 = .ok (.aload_n 0, 1) := by decide +kernel
theorem dX8_findCheapest_21 : decode cX8_findCheapest 21 = .ok (.getfield 12, 3) := by decide +kernel
theorem dX8_findCheapest_24 : decode cX8_findCheapest 24 = .ok (.iload_n 3, 1) := by decide +kernel
theorem dX8_findCheapest_25 : decode cX8_findCheapest 25 = .ok (.invokevirtual 329, 3) := by decide +kernel
theorem dX8_findCheapest_28 : decode cX8_findCheapest 28 = .ok (.ifCond .eq 40, 3) := by decide +kernel
theorem dX8_findCheapest_31 : decode cX8_findCheapest 31 = .ok (.aload_n 0, 1) := by decide +kernel
theorem dX8_findCheapest_32 : decode cX8_findCheapest 32 = .ok (.getfield 16, 3) := by decide +kernel
theorem dX8_findCheapest_35 : decode cX8_findCheapest 35 = .ok (.aload_n 0, 1) := by decide +kernel
theorem dX8_findCheapest_36 : decode cX8_findCheapest 36 = .ok (.getfield 12, 3) := by decide +kernel
theorem dX8_findCheapest_39 : decode cX8_findCheapest 39 = .ok (.invokevirtual 265, 3) := by decide +kernel
theorem dX8_findCheapest_42 : decode cX8_findCheapest 42 = .ok (.aload_n 0, 1) := by decide +kernel
theorem dX8_findCheapest_43 : decode cX8_findCheapest 43 = .ok (.getfield 16, 3) := by decide +kernel
theorem dX8_findCheapest_46 : decode cX8_findCheapest 46 = .ok (.iload_n 3, 1) := by decide +kernel
theorem dX8_findCheapest_47 : decode cX8_findCheapest 47 = .ok (.invokevirtual 213, 3) := by decide +kernel
theorem dX8_findCheapest_50 : decode cX8_findCheapest 50 = .ok (.istore 4, 2) := by decide +kernel
theorem dX8_findCheapest_52 : decode cX8_findCheapest 52 = .ok (.iload_n 1, 1) := by decide +kernel
theorem dX8_findCheapest_53 : decode cX8_findCheapest 53 = .ok (.iconst (-1), 1) := by decide +kernel
theorem dX8_findCheapest_54 : decode cX8_findCheapest 54 = .ok (.if_icmp .eq 9, 3) := by decide +kernel
theorem dX8_findCheapest_57 : decode cX8_findCheapest 57 = .ok (.iload 4, 2) := by decide +kernel
theorem dX8_findCheapest_59 : decode cX8_findCheapest 59 = .ok (.iload_n 2, 1) := by decide +kernel
theorem dX8_findCheapest_60 : decode cX8_findCheapest 60 = .ok (.if_icmp .ge 8, 3) := by decide +kernel
theorem dX8_findCheapest_63 : decode cX8_findCheapest 63 = .ok (.iload_n 3, 1) := by decide +kernel
theorem dX8_findCheapest_64 : decode cX8_findCheapest 64 = .ok (.istore_n 1, 1) := by decide +kernel
theorem dX8_findCheapest_65 : decode cX8_findCheapest 65 = .ok (.iload 4, 2) := by decide +kernel
theorem dX8_findCheapest_67 : decode cX8_findCheapest 67 = .ok (.istore_n 2, 1) := by decide +kernel
theorem dX8_findCheapest_68 : decode cX8_findCheapest 68 = .ok (.iinc 3 1, 3) := by decide +kernel
theorem dX8_findCheapest_71 : decode cX8_findCheapest 71 = .ok (.goto (-65), 3) := by decide +kernel
theorem dX8_findCheapest_74 : decode cX8_findCheapest 74 = .ok (.iload_n 1, 1) := by decide +kernel
theorem dX8_findCheapest_75 : decode cX8_findCheapest 75 = .ok (.ireturn, 1) := by decide +kernel
theorem dX8_meanOf_0 : decode cX8_meanOf 0 = .ok (.iload_n 1, 1) := by decide +kernel
theorem dX8_meanOf_1 : decode cX8_meanOf 1 = .ok (.ifCond .gt 7, 3) := by decide +kernel
theorem dX8_meanOf_4 : decode cX8_meanOf 4 = .ok (.dconst 0, 1) := by decide +kernel
theorem dX8_meanOf_5 : decode cX8_meanOf 5 = .ok (.goto 8, 3) := by decide +kernel
theorem dX8_meanOf_8 : decode cX8_meanOf 8 = .ok (.iload_n 0, 1) := by decide +kernel
theorem dX8_meanOf_9 : decode cX8_meanOf 9 = .ok (.i2d, 1) := by decide +kernel
theorem dX8_meanOf_10 : decode cX8_meanOf 10 = .ok (.iload_n 1, 1) := by decide +kernel
theorem dX8_meanOf_11 : decode cX8_meanOf 11 = .ok (.i2d, 1) := by decide +kernel
theorem dX8_meanOf_12 : decode cX8_meanOf 12 = .ok (.ddiv, 1) := by decide +kernel
theorem dX8_meanOf_13 : decode cX8_meanOf 13 = .ok (.dreturn, 1) := by decide +kernel
theorem dX8_hashOn_0 : decode cX8_hashOn 0 = .ok (.ldc2_w 462, 3) := by decide +kernel
theorem dX8_hashOn_3 : decode cX8_hashOn 3 = .ok (.lload_n 0, 1) := by decide +kernel
theorem dX8_hashOn_4 : decode cX8_hashOn 4 = .ok (.lmul, 1) := by decide +kernel
theorem dX8_hashOn_5 : decode cX8_hashOn 5 = .ok (.lload_n 2, 1) := by decide +kernel
theorem dX8_hashOn_6 : decode cX8_hashOn 6 = .ok (.ladd, 1) := by decide +kernel
theorem dX8_hashOn_7 : decode cX8_hashOn 7 = .ok (.lreturn, 1) := by decide +kernel
set_option maxRecDepth 20000 in
theorem ggX8_hashOn__X8_hashOn : GoodIn wsX8_hashOn_ wsX8_hashOn := goodIn_r _ [4, 5] (by decide +kernel) (by decide +kernel)
set_option maxRecDepth 20000 in
theorem gX8_hashOn__X8_hashOn : GoodIn wsX8_hashOn_ (va_wsS RX8 402 yX8_hashOn wsX8_hashOn) := goodIn_app (goodIn_of _ (by decide +kernel)) ggX8_hashOn__X8_hashOn
theorem dX8_hashOn__0 : decode cX8_hashOn_ 0 = .ok (.lload_n 0, 1) := by decide +kernel
theorem dX8_hashOn__1 : decode cX8_hashOn_ 1 = .ok (.iload_n 2, 1) := by decide +kernel
theorem dX8_hashOn__2 : decode cX8_hashOn_ 2 = .ok (.ifCond .eq 7, 3) := by decide +kernel
theorem dX8_hashOn__5 : decode cX8_hashOn_ 5 = .ok (.lconst 1, 1) := by decide +kernel
theorem dX8_hashOn__6 : decode cX8_hashOn_ 6 = .ok (.goto 4, 3) := by decide +kernel
theorem dX8_hashOn__9 : decode cX8_hashOn_ 9 = .ok (.lconst 0, 1) := by decide +kernel
theorem dX8_hashOn__10 : decode cX8_hashOn_ 10 = .ok (.invokestatic 402, 3) := by decide +kernel
theorem dX8_hashOn__13 : decode cX8_hashOn_ 13 = .ok (.lreturn, 1) := by decide +kernel
set_option maxRecDepth 20000 in
theorem ggX8_hashShelves_X8_shelves : GoodIn wsX8_hashShelves wsX8_shelves := goodIn_r _ [6, 1, 63, 64, 65, 66, 67, 68, 69, 70, 71, 72, 73, 74, 75, 76, 77, 78, 79] (by decide +kernel) (by decide +kernel)
set_option maxRecDepth 20000 in
theorem gX8_hashShelves_X8_shelves : GoodIn wsX8_hashShelves (wsV RX8 464 RX8 yX8_shelves wsX8_shelves) := goodIn_app (goodIn_of _ (by decide +kernel)) ggX8_hashShelves_X8_shelves
set_option maxRecDepth 20000 in
theorem ggX8_hashShelves_X8_hashOn : GoodIn wsX8_hashShelves wsX8_hashOn := goodIn_r _ [9, 10] (by decide +kernel) (by decide +kernel)
set_option maxRecDepth 20000 in
theorem gX8_hashShelves_X8_hashOn : GoodIn wsX8_hashShelves (va_wsS RX8 402 yX8_hashOn wsX8_hashOn) := goodIn_app (goodIn_of _ (by decide +kernel)) ggX8_hashShelves_X8_hashOn
set_option maxRecDepth 20000 in
theorem ggX8_hashShelves_X8_heightOf : GoodIn wsX8_hashShelves wsX8_heightOf := goodIn_ca (goodIn_r _ [14, 1, 15, 16, 17, 5, 18, 19, 20, 63, 64, 65, 66, 67, 68, 69, 70, 71, 72, 73, 74, 75, 76, 77, 78, 79] (by decide +kernel) (by decide +kernel)) (goodIn_sub (fun _ h => List.mem_cons_of_mem _ (List.mem_append_right _ h)) (by decide +kernel))
set_option maxRecDepth 20000 in
theorem gX8_hashShelves_X8_heightOf : GoodIn wsX8_hashShelves (wsV RX8 467 RX8 yX8_heightOf wsX8_heightOf) := goodIn_app (goodIn_of _ (by decide +kernel)) ggX8_hashShelves_X8_heightOf
set_option maxRecDepth 20000 in
theorem ggX8_hashShelves_X8_sideOf : GoodIn wsX8_hashShelves wsX8_sideOf := goodIn_ca (goodIn_r _ [24, 1, 15, 16, 17, 5, 18, 19, 20, 63, 64, 65, 66, 67, 68, 69, 70, 71, 72, 73, 74, 75, 76, 77, 78, 79] (by decide +kernel) (by decide +kernel)) (goodIn_sub (fun _ h => List.mem_cons_of_mem _ (List.mem_append_right _ h)) (by decide +kernel))
set_option maxRecDepth 20000 in
theorem gX8_hashShelves_X8_sideOf : GoodIn wsX8_hashShelves (wsV RX8 470 RX8 yX8_sideOf wsX8_sideOf) := goodIn_app (goodIn_of _ (by decide +kernel)) ggX8_hashShelves_X8_sideOf
set_option maxRecDepth 20000 in
theorem ggX8_hashShelves_X8_slotOf : GoodIn wsX8_hashShelves wsX8_slotOf := goodIn_ca (goodIn_r _ [28, 1, 15, 16, 17, 5, 18, 19, 20, 63, 64, 65, 66, 67, 68, 69, 70, 71, 72, 73, 74, 75, 76, 77, 78, 79] (by decide +kernel) (by decide +kernel)) (goodIn_sub (fun _ h => List.mem_cons_of_mem _ (List.mem_append_right _ h)) (by decide +kernel))
set_option maxRecDepth 20000 in
theorem gX8_hashShelves_X8_slotOf : GoodIn wsX8_hashShelves (wsV RX8 473 RX8 yX8_slotOf wsX8_slotOf) := goodIn_app (goodIn_of _ (by decide +kernel)) ggX8_hashShelves_X8_slotOf
set_option maxRecDepth 20000 in
theorem ggX8_hashShelves_X8_isAtWindow : GoodIn wsX8_hashShelves wsX8_isAtWindow := goodIn_ca (goodIn_r _ [32, 1, 15, 16, 17, 5, 18, 19, 20, 63, 64, 65, 66, 67, 68, 69, 70, 71, 72, 73, 74, 75, 76, 77, 78, 79] (by decide +kernel) (by decide +kernel)) (goodIn_sub (fun _ h => List.mem_cons_of_mem _ (List.mem_append_right _ h)) (by decide +kernel))
set_option maxRecDepth 20000 in
theorem gX8_hashShelves_X8_isAtWindow : GoodIn wsX8_hashShelves (wsV RX8 476 RX8 yX8_isAtWindow wsX8_isAtWindow) := goodIn_app (goodIn_of _ (by decide +kernel)) ggX8_hashShelves_X8_isAtWindow
set_option maxRecDepth 20000 in
theorem ggX8_hashShelves_X8_hashOn_ : GoodIn wsX8_hashShelves wsX8_hashOn_ := goodIn_r _ [35, 7, 8, 5, 9, 10] (by decide +kernel) (by decide +kernel)
set_option maxRecDepth 20000 in
theorem gX8_hashShelves_X8_hashOn_ : GoodIn wsX8_hashShelves (va_wsS RX8 479 yX8_hashOn_ wsX8_hashOn_) := goodIn_app (goodIn_of _ (by decide +kernel)) ggX8_hashShelves_X8_hashOn_
set_option maxRecDepth 20000 in
theorem ggX8_hashShelves_X8_thingsIn : GoodIn wsX8_hashShelves wsX8_thingsIn := goodIn_ca (goodIn_r _ [39, 1, 15, 16, 17, 5, 18, 19, 20, 40, 41, 42, 43, 44, 45, 46, 47, 48, 63, 64, 65, 66, 67, 68, 69, 70, 71, 72, 73, 74, 75, 76, 77, 78, 79] (by decide +kernel) (by decide +kernel)) (goodIn_sub (fun _ h => List.mem_cons_of_mem _ (List.mem_append_right _ h)) (by decide +kernel))
set_option maxRecDepth 20000 in
theorem gX8_hashShelves_X8_thingsIn : GoodIn wsX8_hashShelves (wsV RX8 482 RX8 yX8_thingsIn wsX8_thingsIn) := goodIn_app (goodIn_of _ (by decide +kernel)) ggX8_hashShelves_X8_thingsIn
set_option maxRecDepth 20000 in
theorem ggX8_hashShelves_X8_weightOf : GoodIn wsX8_hashShelves wsX8_weightOf := goodIn_ca (goodIn_r _ [52, 1, 15, 16, 17, 5, 18, 19, 20, 53, 54, 55, 56, 57, 58, 44, 45, 46, 47, 48, 63, 64, 65, 66, 67, 68, 69, 70, 71, 72, 73, 74, 75, 76, 77, 78, 79, 80, 81, 82, 83] (by decide +kernel) (by decide +kernel)) (goodIn_sub (fun _ h => List.mem_cons_of_mem _ (List.mem_append_right _ h)) (by decide +kernel))
set_option maxRecDepth 20000 in
theorem gX8_hashShelves_X8_weightOf : GoodIn wsX8_hashShelves (wsV RX8 485 RX8 yX8_weightOf wsX8_weightOf) := goodIn_app (goodIn_of _ (by decide +kernel)) ggX8_hashShelves_X8_weightOf
set_option maxRecDepth 20000 in
theorem ggX8_hashShelves_X8_fetchesOf : GoodIn wsX8_hashShelves wsX8_fetchesOf := goodIn_ca (goodIn_r _ [62, 1, 15, 16, 17, 5, 18, 19, 20, 63, 64, 65, 66, 67, 68, 69, 70, 71, 72, 73, 74, 75, 76, 77, 78, 79] (by decide +kernel) (by decide +kernel)) (goodIn_sub (fun _ h => List.mem_cons_of_mem _ (List.mem_append_right _ h)) (by decide +kernel))
set_option maxRecDepth 20000 in
theorem gX8_hashShelves_X8_fetchesOf : GoodIn wsX8_hashShelves (wsV RX8 488 RX8 yX8_fetchesOf wsX8_fetchesOf) := goodIn_app (goodIn_of _ (by decide +kernel)) ggX8_hashShelves_X8_fetchesOf
theorem dX8_hashShelves_0 : decode cX8_hashShelves 0 = .ok (.lload_n 1, 1) := by decide +kernel
theorem dX8_hashShelves_1 : decode cX8_hashShelves 1 = .ok (.aload_n 0, 1) := by decide +kernel
theorem dX8_hashShelves_2 : decode cX8_hashShelves 2 = .ok (.invokevirtual 464, 3) := by decide +kernel
theorem dX8_hashShelves_5 : decode cX8_hashShelves 5 = .ok (.i2l, 1) := by decide +kernel
theorem dX8_hashShelves_6 : decode cX8_hashShelves 6 = .ok (.invokestatic 402, 3) := by decide +kernel
theorem dX8_hashShelves_9 : decode cX8_hashShelves 9 = .ok (.lstore_n 3, 1) := by decide +kernel
theorem dX8_hashShelves_10 : decode cX8_hashShelves 10 = .ok (.iconst 0, 1) := by decide +kernel
theorem dX8_hashShelves_11 : decode cX8_hashShelves 11 = .ok (.istore 5, 2) := by decide +kernel
theorem dX8_hashShelves_13 : decode cX8_hashShelves 13 = .ok (.iload 5, 2) := by decide +kernel
theorem dX8_hashShelves_15 : decode cX8_hashShelves 15 = .ok (.aload_n 0, 1) := by decide +kernel
theorem dX8_hashShelves_16 : decode cX8_hashShelves 16 = .ok (.getfield 12, 3) := by decide +kernel
theorem dX8_hashShelves_19 : decode cX8_hashShelves 19 = .ok (.getfield 44, 3) := by decide +kernel
theorem dX8_hashShelves_22 : decode cX8_hashShelves 22 = .ok (.getfield 48, 3) := by decide +kernel
theorem dX8_hashShelves_25 : decode cX8_hashShelves 25 = .ok (.if_icmp .ge 110, 3) := by decide +kernel
theorem dX8_hashShelves_28 : decode cX8_hashShelves 28 = .ok (.lload_n 3, 1) := by decide +kernel
theorem dX8_hashShelves_29 : decode cX8_hashShelves 29 = .ok (.aload_n 0, 1) := by decide +kernel
theorem dX8_hashShelves_30 : decode cX8_hashShelves 30 = .ok (.iload 5, 2) := by decide +kernel
theorem dX8_hashShelves_32 : decode cX8_hashShelves 32 = .ok (.invokevirtual 467, 3) := by decide +kernel
theorem dX8_hashShelves_35 : decode cX8_hashShelves 35 = .ok (.i2l, 1) := by decide +kernel
theorem dX8_hashShelves_36 : decode cX8_hashShelves 36 = .ok (.invokestatic 402, 3) := by decide +kernel
theorem dX8_hashShelves_39 : decode cX8_hashShelves 39 = .ok (.lstore_n 3, 1) := by decide +kernel
theorem dX8_hashShelves_40 : decode cX8_hashShelves 40 = .ok (.lload_n 3, 1) := by decide +kernel
theorem dX8_hashShelves_41 : decode cX8_hashShelves 41 = .ok (.aload_n 0, 1) := by decide +kernel
theorem dX8_hashShelves_42 : decode cX8_hashShelves 42 = .ok (.iload 5, 2) := by decide +kernel
theorem dX8_hashShelves_44 : decode cX8_hashShelves 44 = .ok (.invokevirtual 470, 3) := by decide +kernel
theorem dX8_hashShelves_47 : decode cX8_hashShelves 47 = .ok (.i2l, 1) := by decide +kernel
theorem dX8_hashShelves_48 : decode cX8_hashShelves 48 = .ok (.invokestatic 402, 3) := by decide +kernel
theorem dX8_hashShelves_51 : decode cX8_hashShelves 51 = .ok (.lstore_n 3, 1) := by decide +kernel
theorem dX8_hashShelves_52 : decode cX8_hashShelves 52 = .ok (.lload_n 3, 1) := by decide +kernel
theorem dX8_hashShelves_53 : decode cX8_hashShelves 53 = .ok (.aload_n 0, 1) := by decide +kernel
theorem dX8_hashShelves_54 : decode cX8_hashShelves 54 = .ok (.iload 5, 2) := by decide +kernel
theorem dX8_hashShelves_56 : decode cX8_hashShelves 56 = .ok (.invokevirtual 473, 3) := by decide +kernel
theorem dX8_hashShelves_59 : decode cX8_hashShelves 59 = .ok (.i2l, 1) := by decide +kernel
theorem dX8_hashShelves_60 : decode cX8_hashShelves 60 = .ok (.invokestatic 402, 3) := by decide +kernel
theorem dX8_hashShelves_63 : decode cX8_hashShelves 63 = .ok (.lstore_n 3, 1) := by decide +kernel
theorem dX8_hashShelves_64 : decode cX8_hashShelves 64 = .ok (.lload_n 3, 1) := by decide +kernel
theorem dX8_hashShelves_65 : decode cX8_hashShelves 65 = .ok (.aload_n 0, 1) := by decide +kernel
theorem dX8_hashShelves_66 : decode cX8_hashShelves 66 = .ok (.iload 5, 2) := by decide +kernel
theorem dX8_hashShelves_68 : decode cX8_hashShelves 68 = .ok (.invokevirtual 476, 3) := by decide +kernel
theorem dX8_hashShelves_71 : decode cX8_hashShelves 71 = .ok (.invokestatic 479, 3) := by decide +kernel
theorem dX8_hashShelves_74 : decode cX8_hashShelves 74 = .ok (.lstore_n 3, 1) := by decide +kernel
theorem dX8_hashShelves_75 : decode cX8_hashShelves 75 = .ok (.iconst 0, 1) := by decide +kernel
theorem dX8_hashShelves_76 : decode cX8_hashShelves 76 = .ok (.istore 6, 2) := by decide +kernel
theorem dX8_hashShelves_78 : decode cX8_hashShelves 78 = .ok (.iload 6, 2) := by decide +kernel
theorem dX8_hashShelves_80 : decode cX8_hashShelves 80 = .ok (.bipush 10, 2) := by decide +kernel
theorem dX8_hashShelves_82 : decode cX8_hashShelves 82 = .ok (.if_icmp .ge 23, 3) := by decide +kernel
theorem dX8_hashShelves_85 : decode cX8_hashShelves 85 = .ok (.lload_n 3, 1) := by decide +kernel
theorem dX8_hashShelves_86 : decode cX8_hashShelves 86 = .ok (.aload_n 0, 1) := by decide +kernel
theorem dX8_hashShelves_87 : decode cX8_hashShelves 87 = .ok (.iload 5, 2) := by decide +kernel
theorem dX8_hashShelves_89 : decode cX8_hashShelves 89 = .ok (.iload 6, 2) := by decide +kernel
theorem dX8_hashShelves_91 : decode cX8_hashShelves 91 = .ok (.invokevirtual 482, 3) := by decide +kernel
theorem dX8_hashShelves_94 : decode cX8_hashShelves 94 = .ok (.i2l, 1) := by decide +kernel
theorem dX8_hashShelves_95 : decode cX8_hashShelves 95 = .ok (.invokestatic 402, 3) := by decide +kernel
theorem dX8_hashShelves_98 : decode cX8_hashShelves 98 = .ok (.lstore_n 3, 1) := by decide +kernel
theorem dX8_hashShelves_99 : decode cX8_hashShelves 99 = .ok (.iinc 6 1, 3) := by decide +kernel
theorem dX8_hashShelves_102 : decode cX8_hashShelves 102 = .ok (.goto (-24), 3) := by decide +kernel
theorem dX8_hashShelves_105 : decode cX8_hashShelves 105 = .ok (.lload_n 3, 1) := by decide +kernel
theorem dX8_hashShelves_106 : decode cX8_hashShelves 106 = .ok (.aload_n 0, 1) := by decide +kernel
theorem dX8_hashShelves_107 : decode cX8_hashShelves 107 = .ok (.iload 5, 2) := by decide +kernel
theorem dX8_hashShelves_109 : decode cX8_hashShelves 109 = .ok (.invokevirtual 485, 3) := by decide +kernel
theorem dX8_hashShelves_112 : decode cX8_hashShelves 112 = .ok (.i2l, 1) := by decide +kernel
theorem dX8_hashShelves_113 : decode cX8_hashShelves 113 = .ok (.invokestatic 402, 3) := by decide +kernel
theorem dX8_hashShelves_116 : decode cX8_hashShelves 116 = .ok (.lstore_n 3, 1) := by decide +kernel
theorem dX8_hashShelves_117 : decode cX8_hashShelves 117 = .ok (.lload_n 3, 1) := by decide +kernel
theorem dX8_hashShelves_118 : decode cX8_hashShelves 118 = .ok (.aload_n 0, 1) := by decide +kernel
theorem dX8_hashShelves_119 : decode cX8_hashShelves 119 = .ok (.iload 5, 2) := by decide +kernel
theorem dX8_hashShelves_121 : decode cX8_hashShelves 121 = .ok (.invokevirtual 488, 3) := by decide +kernel
theorem dX8_hashShelves_124 : decode cX8_hashShelves 124 = .ok (.i2l, 1) := by decide +kernel
theorem dX8_hashShelves_125 : decode cX8_hashShelves 125 = .ok (.invokestatic 402, 3) := by decide +kernel
theorem dX8_hashShelves_128 : decode cX8_hashShelves 128 = .ok (.lstore_n 3, 1) := by decide +kernel
theorem dX8_hashShelves_129 : decode cX8_hashShelves 129 = .ok (.iinc 5 1, 3) := by decide +kernel
theorem dX8_hashShelves_132 : decode cX8_hashShelves 132 = .ok (.goto (-119), 3) := by decide +kernel
theorem dX8_hashShelves_135 : decode cX8_hashShelves 135 = .ok (.lload_n 3, 1) := by decide +kernel
theorem dX8_hashShelves_136 : decode cX8_hashShelves 136 = .ok (.lreturn, 1) := by decide +kernel
set_option maxRecDepth 20000 in
theorem ggX8_hashSlots_X7_holderOf : GoodIn wsX8_hashSlots wsX7_holderOf := goodIn_r _ [5, 6, 7, 8, 9, 84, 85, 86, 87, 88, 89] (by decide +kernel) (by decide +kernel)
set_option maxRecDepth 20000 in
theorem gX8_hashSlots_X7_holderOf_n281 : GoodIn wsX8_hashSlots (wsX7_holderOf) := ggX8_hashSlots_X7_holderOf
set_option maxRecDepth 20000 in
theorem ggX8_hashSlots_X8_hashOn : GoodIn wsX8_hashSlots wsX8_hashOn := goodIn_r _ [13, 14] (by decide +kernel) (by decide +kernel)
set_option maxRecDepth 20000 in
theorem gX8_hashSlots_X8_hashOn : GoodIn wsX8_hashSlots (va_wsS RX8 402 yX8_hashOn wsX8_hashOn) := goodIn_app (goodIn_of _ (by decide +kernel)) ggX8_hashSlots_X8_hashOn
set_option maxRecDepth 20000 in
theorem ggX8_hashSlots_X8_freeBySlots : GoodIn wsX8_hashSlots wsX8_freeBySlots := goodIn_r _ [18, 1, 19, 3, 20, 21, 22, 23, 24, 25, 6, 7, 8, 9, 26, 27, 28, 29, 30, 31, 73, 74, 75, 76, 77, 78, 79, 80, 81, 82, 83, 84, 85, 86, 87, 88, 89] (by decide +kernel) (by decide +kernel)
set_option maxRecDepth 20000 in
theorem gX8_hashSlots_X8_freeBySlots : GoodIn wsX8_hashSlots (wsV RX8 491 RX8 yX8_freeBySlots wsX8_freeBySlots) := goodIn_app (goodIn_of _ (by decide +kernel)) ggX8_hashSlots_X8_freeBySlots
set_option maxRecDepth 20000 in
theorem ggX8_hashSlots_X8_freeByHeights : GoodIn wsX8_hashSlots wsX8_freeByHeights := goodIn_r _ [35, 1, 36, 3, 37, 38, 6, 7, 9, 73, 74, 75, 76, 77, 78, 79, 80, 81, 82, 83, 84, 85, 86, 87, 88, 89] (by decide +kernel) (by decide +kernel)
set_option maxRecDepth 20000 in
theorem gX8_hashSlots_X8_freeByHeights : GoodIn wsX8_hashSlots (wsV RX8 494 RX8 yX8_freeByHeights wsX8_freeByHeights) := goodIn_app (goodIn_of _ (by decide +kernel)) ggX8_hashSlots_X8_freeByHeights
set_option maxRecDepth 20000 in
theorem ggX8_hashSlots_X7_firstFree : GoodIn wsX8_hashSlots wsX7_firstFree := goodIn_r _ [41, 22, 23, 24, 3, 25, 6, 7, 8, 9, 26, 27, 28, 42, 43, 44, 29, 30, 31, 84, 85, 86, 87, 88, 89] (by decide +kernel) (by decide +kernel)
set_option maxRecDepth 20000 in
theorem gX8_hashSlots_X7_firstFree_n64 : GoodIn wsX8_hashSlots (wsX7_firstFree) := ggX8_hashSlots_X7_firstFree
set_option maxRecDepth 20000 in
theorem ggX8_hashSlots_X8_longestGap : GoodIn wsX8_hashSlots wsX8_longestGap := goodIn_ca (goodIn_r _ [48, 1, 49, 50, 51, 12, 52, 53, 54, 55, 3, 56, 57, 58, 59, 60, 61, 22, 23, 24, 25, 6, 7, 8, 9, 26, 27, 28, 29, 30, 31, 73, 74, 75, 76, 77, 78, 79, 80, 81, 82, 83, 84, 85, 86, 87, 88, 89] (by decide +kernel) (by decide +kernel)) (goodIn_sub (fun _ h => List.mem_cons_of_mem _ (List.mem_append_right _ h)) (by decide +kernel))
set_option maxRecDepth 20000 in
theorem gX8_hashSlots_X8_longestGap : GoodIn wsX8_hashSlots (wsV RX8 497 RX8 yX8_longestGap wsX8_longestGap) := goodIn_app (goodIn_of _ (by decide +kernel)) ggX8_hashSlots_X8_longestGap
set_option maxRecDepth 20000 in
theorem ggX8_hashSlots_X8_lift : GoodIn wsX8_hashSlots wsX8_lift := goodIn_r _ [65, 1, 73, 74, 75, 76, 77, 78, 79, 80, 81, 82, 83, 90, 91, 92, 93, 94, 95, 96] (by decide +kernel) (by decide +kernel)
set_option maxRecDepth 20000 in
theorem gX8_hashSlots_X8_lift : GoodIn wsX8_hashSlots (wsV RX8 500 RX8 yX8_lift wsX8_lift) := goodIn_app (goodIn_of _ (by decide +kernel)) ggX8_hashSlots_X8_lift
set_option maxRecDepth 20000 in
theorem ggX8_hashSlots_X8_isKeptPlace : GoodIn wsX8_hashSlots wsX8_isKeptPlace := goodIn_r _ [69, 1, 73, 74, 75, 76, 77, 78, 79, 80, 81, 82, 83, 90, 91, 92, 93, 94, 95, 96] (by decide +kernel) (by decide +kernel)
set_option maxRecDepth 20000 in
theorem gX8_hashSlots_X8_isKeptPlace : GoodIn wsX8_hashSlots (wsV RX8 502 RX8 yX8_isKeptPlace wsX8_isKeptPlace) := goodIn_app (goodIn_of _ (by decide +kernel)) ggX8_hashSlots_X8_isKeptPlace
set_option maxRecDepth 20000 in
theorem ggX8_hashSlots_X8_hashOn_ : GoodIn wsX8_hashSlots wsX8_hashOn_ := goodIn_r _ [72, 10, 11, 12, 13, 14] (by decide +kernel) (by decide +kernel)
set_option maxRecDepth 20000 in
theorem gX8_hashSlots_X8_hashOn_ : GoodIn wsX8_hashSlots (va_wsS RX8 479 yX8_hashOn_ wsX8_hashOn_) := goodIn_app (goodIn_of _ (by decide +kernel)) ggX8_hashSlots_X8_hashOn_
theorem dX8_hashSlots_0 : decode cX8_hashSlots 0 = .ok (.lload_n 1, 1) := by decide +kernel
theorem dX8_hashSlots_1 : decode cX8_hashSlots 1 = .ok (.lstore_n 3, 1) := by decide +kernel
theorem dX8_hashSlots_2 : decode cX8_hashSlots 2 = .ok (.iconst 0, 1) := by decide +kernel
theorem dX8_hashSlots_3 : decode cX8_hashSlots 3 = .ok (.istore 5, 2) := by decide +kernel
theorem dX8_hashSlots_5 : decode cX8_hashSlots 5 = .ok (.iload 5, 2) := by decide +kernel
theorem dX8_hashSlots_7 : decode cX8_hashSlots 7 = .ok (.bipush 40, 2) := by decide +kernel
theorem dX8_hashSlots_9 : decode cX8_hashSlots 9 = .ok (.if_icmp .ge 29, 3) := by decide +kernel
theorem dX8_hashSlots_12 : decode cX8_hashSlots 12 = .ok (.lload_n 3, 1) := by decide +kernel
theorem dX8_hashSlots_13 : decode cX8_hashSlots 13 = .ok (.aload_n 0, 1) := by decide +kernel
theorem dX8_hashSlots_14 : decode cX8_hashSlots 14 = .ok (.getfield 12, 3) := by decide +kernel
theorem dX8_hashSlots_17 : decode cX8_hashSlots 17 = .ok (.getfield 44, 3) := by decide +kernel
theorem dX8_hashSlots_20 : decode cX8_hashSlots 20 = .ok (.iload 5, 2) := by decide +kernel
theorem dX8_hashSlots_22 : decode cX8_hashSlots 22 = .ok (.invokevirtual 281, 3) := by decide +kernel
theorem dX8_hashSlots_25 : decode cX8_hashSlots 25 = .ok (.iconst 1, 1) := by decide +kernel
theorem dX8_hashSlots_26 : decode cX8_hashSlots 26 = .ok (.iadd, 1) := by decide +kernel
theorem dX8_hashSlots_27 : decode cX8_hashSlots 27 = .ok (.i2l, 1) := by decide +kernel
theorem dX8_hashSlots_28 : decode cX8_hashSlots 28 = .ok (.invokestatic 402, 3) := by decide +kernel
theorem dX8_hashSlots_31 : decode cX8_hashSlots 31 = .ok (.lstore_n 3, 1) := by decide +kernel
theorem dX8_hashSlots_32 : decode cX8_hashSlots 32 = .ok (.iinc 5 1, 3) := by decide +kernel
theorem dX8_hashSlots_35 : decode cX8_hashSlots 35 = .ok (.goto (-30), 3) := by decide +kernel
theorem dX8_hashSlots_38 : decode cX8_hashSlots 38 = .ok (.lload_n 3, 1) := by decide +kernel
theorem dX8_hashSlots_39 : decode cX8_hashSlots 39 = .ok (.aload_n 0, 1) := by decide +kernel
theorem dX8_hashSlots_40 : decode cX8_hashSlots 40 = .ok (.invokevirtual 491, 3) := by decide +kernel
theorem dX8_hashSlots_43 : decode cX8_hashSlots 43 = .ok (.i2l, 1) := by decide +kernel
theorem dX8_hashSlots_44 : decode cX8_hashSlots 44 = .ok (.invokestatic 402, 3) := by decide +kernel
theorem dX8_hashSlots_47 : decode cX8_hashSlots 47 = .ok (.lstore_n 3, 1) := by decide +kernel
theorem dX8_hashSlots_48 : decode cX8_hashSlots 48 = .ok (.lload_n 3, 1) := by decide +kernel
theorem dX8_hashSlots_49 : decode cX8_hashSlots 49 = .ok (.aload_n 0, 1) := by decide +kernel
theorem dX8_hashSlots_50 : decode cX8_hashSlots 50 = .ok (.invokevirtual 494, 3) := by decide +kernel
theorem dX8_hashSlots_53 : decode cX8_hashSlots 53 = .ok (.i2l, 1) := by decide +kernel
theorem dX8_hashSlots_54 : decode cX8_hashSlots 54 = .ok (.invokestatic 402, 3) := by decide +kernel
theorem dX8_hashSlots_57 : decode cX8_hashSlots 57 = .ok (.lstore_n 3, 1) := by decide +kernel
theorem dX8_hashSlots_58 : decode cX8_hashSlots 58 = .ok (.iconst 1, 1) := by decide +kernel
theorem dX8_hashSlots_59 : decode cX8_hashSlots 59 = .ok (.istore 5, 2) := by decide +kernel
theorem dX8_hashSlots_61 : decode cX8_hashSlots 61 = .ok (.iload 5, 2) := by decide +kernel
theorem dX8_hashSlots_63 : decode cX8_hashSlots 63 = .ok (.iconst 4, 1) := by decide +kernel
theorem dX8_hashSlots_64 : decode cX8_hashSlots 64 = .ok (.if_icmp .gt 29, 3) := by decide +kernel
theorem dX8_hashSlots_67 : decode cX8_hashSlots 67 = .ok (.lload_n 3, 1) := by decide +kernel
theorem dX8_hashSlots_68 : decode cX8_hashSlots 68 = .ok (.aload_n 0, 1) := by decide +kernel
theorem dX8_hashSlots_69 : decode cX8_hashSlots 69 = .ok (.getfield 12, 3) := by decide +kernel
theorem dX8_hashSlots_72 : decode cX8_hashSlots 72 = .ok (.getfield 44, 3) := by decide +kernel
theorem dX8_hashSlots_75 : decode cX8_hashSlots 75 = .ok (.iload 5, 2) := by decide +kernel
theorem dX8_hashSlots_77 : decode cX8_hashSlots 77 = .ok (.invokevirtual 64, 3) := by decide +kernel
theorem dX8_hashSlots_80 : decode cX8_hashSlots 80 = .ok (.iconst 1, 1) := by decide +kernel
theorem dX8_hashSlots_81 : decode cX8_hashSlots 81 = .ok (.iadd, 1) := by decide +kernel
theorem dX8_hashSlots_82 : decode cX8_hashSlots 82 = .ok (.i2l, 1) := by decide +kernel
theorem dX8_hashSlots_83 : decode cX8_hashSlots 83 = .ok (.invokestatic 402, 3) := by decide +kernel
theorem dX8_hashSlots_86 : decode cX8_hashSlots 86 = .ok (.lstore_n 3, 1) := by decide +kernel
theorem dX8_hashSlots_87 : decode cX8_hashSlots 87 = .ok (.iinc 5 1, 3) := by decide +kernel
theorem dX8_hashSlots_90 : decode cX8_hashSlots 90 = .ok (.goto (-29), 3) := by decide +kernel
theorem dX8_hashSlots_93 : decode cX8_hashSlots 93 = .ok (.lload_n 3, 1) := by decide +kernel
theorem dX8_hashSlots_94 : decode cX8_hashSlots 94 = .ok (.aload_n 0, 1) := by decide +kernel
theorem dX8_hashSlots_95 : decode cX8_hashSlots 95 = .ok (.iconst 0, 1) := by decide +kernel
theorem dX8_hashSlots_96 : decode cX8_hashSlots 96 = .ok (.invokevirtual 497, 3) := by decide +kernel
theorem dX8_hashSlots_99 : decode cX8_hashSlots 99 = .ok (.i2l, 1) := by decide +kernel
theorem dX8_hashSlots_100 : decode cX8_hashSlots 100 = .ok (.invokestatic 402, 3) := by decide +kernel
theorem dX8_hashSlots_103 : decode cX8_hashSlots 103 = .ok (.lstore_n 3, 1) := by decide +kernel
theorem dX8_hashSlots_104 : decode cX8_hashSlots 104 = .ok (.lload_n 3, 1) := by decide +kernel
theorem dX8_hashSlots_105 : decode cX8_hashSlots 105 = .ok (.aload_n 0, 1) := by decide +kernel
theorem dX8_hashSlots_106 : decode cX8_hashSlots 106 = .ok (.iconst 1, 1) := by decide +kernel
theorem dX8_hashSlots_107 : decode cX8_hashSlots 107 = .ok (.invokevirtual 497, 3) := by decide +kernel
theorem dX8_hashSlots_110 : decode cX8_hashSlots 110 = .ok (.i2l, 1) := by decide +kernel
theorem dX8_hashSlots_111 : decode cX8_hashSlots 111 = .ok (.invokestatic 402, 3) := by decide +kernel
theorem dX8_hashSlots_114 : decode cX8_hashSlots 114 = .ok (.lstore_n 3, 1) := by decide +kernel
theorem dX8_hashSlots_115 : decode cX8_hashSlots 115 = .ok (.lload_n 3, 1) := by decide +kernel
theorem dX8_hashSlots_116 : decode cX8_hashSlots 116 = .ok (.aload_n 0, 1) := by decide +kernel
theorem dX8_hashSlots_117 : decode cX8_hashSlots 117 = .ok (.invokevirtual 500, 3) := by decide +kernel
theorem dX8_hashSlots_120 : decode cX8_hashSlots 120 = .ok (.i2l, 1) := by decide +kernel
theorem dX8_hashSlots_121 : decode cX8_hashSlots 121 = .ok (.invokestatic 402, 3) := by decide +kernel
theorem dX8_hashSlots_124 : decode cX8_hashSlots 124 = .ok (.lstore_n 3, 1) := by decide +kernel
theorem dX8_hashSlots_125 : decode cX8_hashSlots 125 = .ok (.lload_n 3, 1) := by decide +kernel
theorem dX8_hashSlots_126 : decode cX8_hashSlots 126 = .ok (.aload_n 0, 1) := by decide +kernel
theorem dX8_hashSlots_127 : decode cX8_hashSlots 127 = .ok (.invokevirtual 502, 3) := by decide +kernel
theorem dX8_hashSlots_130 : decode cX8_hashSlots 130 = .ok (.invokestatic 479, 3) := by decide +kernel
theorem dX8_hashSlots_133 : decode cX8_hashSlots 133 = .ok (.lreturn, 1) := by decide +kernel
set_option maxRecDepth 20000 in
theorem ggX8_hashKinds_X8_weightOfKind : GoodIn wsX8_hashKinds wsX8_weightOfKind := goodIn_ca (goodIn_r _ [5, 6, 7, 8, 9, 4, 10, 11, 12, 79, 80, 81, 82, 83, 84, 85, 86, 87, 88, 89, 90, 91, 92, 93] (by decide +kernel) (by decide +kernel)) (goodIn_sub (fun _ h => List.mem_cons_of_mem _ (List.mem_append_right _ h)) (by decide +kernel))
set_option maxRecDepth 20000 in
theorem gX8_hashKinds_X8_weightOfKind : GoodIn wsX8_hashKinds (wsV RX8 505 RX8 yX8_weightOfKind wsX8_weightOfKind) := goodIn_app (goodIn_of _ (by decide +kernel)) ggX8_hashKinds_X8_weightOfKind
set_option maxRecDepth 20000 in
theorem ggX8_hashKinds_X8_hashOn : GoodIn wsX8_hashKinds wsX8_hashOn := goodIn_r _ [15, 16] (by decide +kernel) (by decide +kernel)
set_option maxRecDepth 20000 in
theorem gX8_hashKinds_X8_hashOn : GoodIn wsX8_hashKinds (va_wsS RX8 402 yX8_hashOn wsX8_hashOn) := goodIn_app (goodIn_of _ (by decide +kernel)) ggX8_hashKinds_X8_hashOn
set_option maxRecDepth 20000 in
theorem ggX8_hashKinds_X8_stockByShelves : GoodIn wsX8_hashKinds wsX8_stockByShelves := goodIn_ca (goodIn_r _ [20, 6, 7, 8, 9, 4, 10, 11, 12, 21, 22, 23, 24, 25, 26, 27, 28, 29, 30, 79, 80, 81, 82, 83, 84, 85, 86, 87, 88, 89, 94, 95, 96, 97, 98, 99] (by decide +kernel) (by decide +kernel)) (goodIn_sub (fun _ h => List.mem_cons_of_mem _ (List.mem_append_right _ h)) (by decide +kernel))
set_option maxRecDepth 20000 in
theorem gX8_hashKinds_X8_stockByShelves : GoodIn wsX8_hashKinds (wsV RX8 508 RX8 yX8_stockByShelves wsX8_stockByShelves) := goodIn_app (goodIn_of _ (by decide +kernel)) ggX8_hashKinds_X8_stockByShelves
set_option maxRecDepth 20000 in
theorem ggX8_hashKinds_X8_stockByAccount : GoodIn wsX8_hashKinds wsX8_stockByAccount := goodIn_ca (goodIn_r _ [34, 6, 7, 8, 9, 4, 10, 11, 12, 79, 80, 81, 82, 83, 84, 85, 86, 87, 88, 89, 90, 91, 92, 93] (by decide +kernel) (by decide +kernel)) (goodIn_sub (fun _ h => List.mem_cons_of_mem _ (List.mem_append_right _ h)) (by decide +kernel))
set_option maxRecDepth 20000 in
theorem gX8_hashKinds_X8_stockByAccount : GoodIn wsX8_hashKinds (wsV RX8 511 RX8 yX8_stockByAccount wsX8_stockByAccount) := goodIn_app (goodIn_of _ (by decide +kernel)) ggX8_hashKinds_X8_stockByAccount
set_option maxRecDepth 20000 in
theorem ggX8_hashKinds_X8_shelvesWith : GoodIn wsX8_hashKinds wsX8_shelvesWith := goodIn_ca (goodIn_r _ [38, 6, 7, 8, 9, 4, 10, 11, 12, 39, 22, 40, 41, 25, 26, 27, 28, 29, 30, 79, 80, 81, 82, 83, 84, 85, 86, 87, 88, 89, 94, 95, 96, 97, 98, 99] (by decide +kernel) (by decide +kernel)) (goodIn_sub (fun _ h => List.mem_cons_of_mem _ (List.mem_append_right _ h)) (by decide +kernel))
set_option maxRecDepth 20000 in
theorem gX8_hashKinds_X8_shelvesWith : GoodIn wsX8_hashKinds (wsV RX8 514 RX8 yX8_shelvesWith wsX8_shelvesWith) := goodIn_app (goodIn_of _ (by decide +kernel)) ggX8_hashKinds_X8_shelvesWith
set_option maxRecDepth 20000 in
theorem ggX8_hashKinds_X8_leastOf : GoodIn wsX8_hashKinds wsX8_leastOf := goodIn_ca (goodIn_r _ [45, 6, 7, 8, 9, 4, 10, 11, 12, 79, 80, 81, 82, 83, 84, 85, 86, 87, 88, 89, 90, 91, 92, 93] (by decide +kernel) (by decide +kernel)) (goodIn_sub (fun _ h => List.mem_cons_of_mem _ (List.mem_append_right _ h)) (by decide +kernel))
set_option maxRecDepth 20000 in
theorem gX8_hashKinds_X8_leastOf : GoodIn wsX8_hashKinds (wsV RX8 517 RX8 yX8_leastOf wsX8_leastOf) := goodIn_app (goodIn_of _ (by decide +kernel)) ggX8_hashKinds_X8_leastOf
set_option maxRecDepth 20000 in
theorem ggX8_hashKinds_X8_missingOf : GoodIn wsX8_hashKinds wsX8_missingOf := goodIn_ca (goodIn_r _ [49, 6, 7, 8, 9, 4, 10, 11, 12, 50, 51, 52, 53, 54, 55, 56, 57, 58, 59, 21, 22, 23, 24, 25, 26, 27, 28, 29, 30, 79, 80, 81, 82, 83, 84, 85, 86, 87, 88, 89, 90, 91, 92, 93, 94, 95, 96, 97, 98, 99] (by decide +kernel) (by decide +kernel)) (goodIn_sub (fun _ h => List.mem_cons_of_mem _ (List.mem_append_right _ h)) (by decide +kernel))
set_option maxRecDepth 20000 in
theorem gX8_hashKinds_X8_missingOf : GoodIn wsX8_hashKinds (wsV RX8 520 RX8 yX8_missingOf wsX8_missingOf) := goodIn_app (goodIn_of _ (by decide +kernel)) ggX8_hashKinds_X8_missingOf
set_option maxRecDepth 20000 in
theorem ggX8_hashKinds_X8_shortKinds : GoodIn wsX8_hashKinds wsX8_shortKinds := goodIn_r _ [63, 6, 50, 51, 52, 53, 54, 55, 56, 57, 58, 59, 21, 22, 23, 24, 25, 26, 27, 28, 29, 30, 79, 80, 81, 82, 83, 84, 85, 86, 87, 88, 89, 90, 91, 92, 93, 94, 95, 96, 97, 98, 99] (by decide +kernel) (by decide +kernel)
set_option maxRecDepth 20000 in
theorem gX8_hashKinds_X8_shortKinds : GoodIn wsX8_hashKinds (wsV RX8 523 RX8 yX8_shortKinds wsX8_shortKinds) := goodIn_app (goodIn_of _ (by decide +kernel)) ggX8_hashKinds_X8_shortKinds
set_option maxRecDepth 20000 in
theorem ggX8_hashKinds_X8_sideWeight : GoodIn wsX8_hashKinds wsX8_sideWeight := goodIn_ca (goodIn_r _ [67, 6, 68, 69, 70, 4, 71, 11, 12, 72, 51, 73, 74, 55, 75, 76, 77, 78, 54, 27, 22, 28, 29, 30, 79, 80, 81, 82, 83, 84, 85, 86, 87, 88, 89, 94, 95, 96, 97, 98, 99, 90, 91, 92, 93] (by decide +kernel) (by decide +kernel)) (goodIn_sub (fun _ h => List.mem_cons_of_mem _ (List.mem_append_right _ h)) (by decide +kernel))
set_option maxRecDepth 20000 in
theorem gX8_hashKinds_X8_sideWeight : GoodIn wsX8_hashKinds (wsV RX8 526 RX8 yX8_sideWeight wsX8_sideWeight) := goodIn_app (goodIn_of _ (by decide +kernel)) ggX8_hashKinds_X8_sideWeight
theorem dX8_hashKinds_0 : decode cX8_hashKinds 0 = .ok (.lload_n 1, 1) := by decide +kernel
theorem dX8_hashKinds_1 : decode cX8_hashKinds 1 = .ok (.lstore_n 3, 1) := by decide +kernel
theorem dX8_hashKinds_2 : decode cX8_hashKinds 2 = .ok (.iconst 0, 1) := by decide +kernel
theorem dX8_hashKinds_3 : decode cX8_hashKinds 3 = .ok (.istore 5, 2) := by decide +kernel
theorem dX8_hashKinds_5 : decode cX8_hashKinds 5 = .ok (.iload 5, 2) := by decide +kernel
theorem dX8_hashKinds_7 : decode cX8_hashKinds 7 = .ok (.bipush 10, 2) := by decide +kernel
theorem dX8_hashKinds_9 : decode cX8_hashKinds 9 = .ok (.if_icmp .ge 81, 3) := by decide +kernel
theorem dX8_hashKinds_12 : decode cX8_hashKinds 12 = .ok (.lload_n 3, 1) := by decide +kernel
theorem dX8_hashKinds_13 : decode cX8_hashKinds 13 = .ok (.aload_n 0, 1) := by decide +kernel
theorem dX8_hashKinds_14 : decode cX8_hashKinds 14 = .ok (.iload 5, 2) := by decide +kernel
theorem dX8_hashKinds_16 : decode cX8_hashKinds 16 = .ok (.invokevirtual 505, 3) := by decide +kernel
theorem dX8_hashKinds_19 : decode cX8_hashKinds 19 = .ok (.i2l, 1) := by decide +kernel
theorem dX8_hashKinds_20 : decode cX8_hashKinds 20 = .ok (.invokestatic 402, 3) := by decide +kernel
theorem dX8_hashKinds_23 : decode cX8_hashKinds 23 = .ok (.lstore_n 3, 1) := by decide +kernel
theorem dX8_hashKinds_24 : decode cX8_hashKinds 24 = .ok (.lload_n 3, 1) := by decide +kernel
theorem dX8_hashKinds_25 : decode cX8_hashKinds 25 = .ok (.aload_n 0, 1) := by decide +kernel
theorem dX8_hashKinds_26 : decode cX8_hashKinds 26 = .ok (.iload 5, 2) := by decide +kernel
theorem dX8_hashKinds_28 : decode cX8_hashKinds 28 = .ok (.invokevirtual 508, 3) := by decide +kernel
theorem dX8_hashKinds_31 : decode cX8_hashKinds 31 = .ok (.i2l, 1) := by decide +kernel
theorem dX8_hashKinds_32 : decode cX8_hashKinds 32 = .ok (.invokestatic 402, 3) := by decide +kernel
theorem dX8_hashKinds_35 : decode cX8_hashKinds 35 = .ok (.lstore_n 3, 1) := by decide +kernel
theorem dX8_hashKinds_36 : decode cX8_hashKinds 36 = .ok (.lload_n 3, 1) := by decide +kernel
theorem dX8_hashKinds_37 : decode cX8_hashKinds 37 = .ok (.aload_n 0, 1) := by decide +kernel
theorem dX8_hashKinds_38 : decode cX8_hashKinds 38 = .ok (.iload 5, 2) := by decide +kernel
theorem dX8_hashKinds_40 : decode cX8_hashKinds 40 = .ok (.invokevirtual 511, 3) := by decide +kernel
theorem dX8_hashKinds_43 : decode cX8_hashKinds 43 = .ok (.i2l, 1) := by decide +kernel
theorem dX8_hashKinds_44 : decode cX8_hashKinds 44 = .ok (.invokestatic 402, 3) := by decide +kernel
theorem dX8_hashKinds_47 : decode cX8_hashKinds 47 = .ok (.lstore_n 3, 1) := by decide +kernel
theorem dX8_hashKinds_48 : decode cX8_hashKinds 48 = .ok (.lload_n 3, 1) := by decide +kernel
theorem dX8_hashKinds_49 : decode cX8_hashKinds 49 = .ok (.aload_n 0, 1) := by decide +kernel
theorem dX8_hashKinds_50 : decode cX8_hashKinds 50 = .ok (.iload 5, 2) := by decide +kernel
theorem dX8_hashKinds_52 : decode cX8_hashKinds 52 = .ok (.invokevirtual 514, 3) := by decide +kernel
theorem dX8_hashKinds_55 : decode cX8_hashKinds 55 = .ok (.i2l, 1) := by decide +kernel
theorem dX8_hashKinds_56 : decode cX8_hashKinds 56 = .ok (.invokestatic 402, 3) := by decide +kernel
theorem dX8_hashKinds_59 : decode cX8_hashKinds 59 = .ok (.lstore_n 3, 1) := by decide +kernel
theorem dX8_hashKinds_60 : decode cX8_hashKinds 60 = .ok (.lload_n 3, 1) := by decide +kernel
theorem dX8_hashKinds_61 : decode cX8_hashKinds 61 = .ok (.aload_n 0, 1) := by decide +kernel
theorem dX8_hashKinds_62 : decode cX8_hashKinds 62 = .ok (.iload 5, 2) := by decide +kernel
theorem dX8_hashKinds_64 : decode cX8_hashKinds 64 = .ok (.invokevirtual 517, 3) := by decide +kernel
theorem dX8_hashKinds_67 : decode cX8_hashKinds 67 = .ok (.i2l, 1) := by decide +kernel
theorem dX8_hashKinds_68 : decode cX8_hashKinds 68 = .ok (.invokestatic 402, 3) := by decide +kernel
theorem dX8_hashKinds_71 : decode cX8_hashKinds 71 = .ok (.lstore_n 3, 1) := by decide +kernel
theorem dX8_hashKinds_72 : decode cX8_hashKinds 72 = .ok (.lload_n 3, 1) := by decide +kernel
theorem dX8_hashKinds_73 : decode cX8_hashKinds 73 = .ok (.aload_n 0, 1) := by decide +kernel
theorem dX8_hashKinds_74 : decode cX8_hashKinds 74 = .ok (.iload 5, 2) := by decide +kernel
theorem dX8_hashKinds_76 : decode cX8_hashKinds 76 = .ok (.invokevirtual 520, 3) := by decide +kernel
theorem dX8_hashKinds_79 : decode cX8_hashKinds 79 = .ok (.i2l, 1) := by decide +kernel
theorem dX8_hashKinds_80 : decode cX8_hashKinds 80 = .ok (.invokestatic 402, 3) := by decide +kernel
theorem dX8_hashKinds_83 : decode cX8_hashKinds 83 = .ok (.lstore_n 3, 1) := by decide +kernel
theorem dX8_hashKinds_84 : decode cX8_hashKinds 84 = .ok (.iinc 5 1, 3) := by decide +kernel
theorem dX8_hashKinds_87 : decode cX8_hashKinds 87 = .ok (.goto (-82), 3) := by decide +kernel
theorem dX8_hashKinds_90 : decode cX8_hashKinds 90 = .ok (.lload_n 3, 1) := by decide +kernel
theorem dX8_hashKinds_91 : decode cX8_hashKinds 91 = .ok (.aload_n 0, 1) := by decide +kernel
theorem dX8_hashKinds_92 : decode cX8_hashKinds 92 = .ok (.invokevirtual 523, 3) := by decide +kernel
theorem dX8_hashKinds_95 : decode cX8_hashKinds 95 = .ok (.i2l, 1) := by decide +kernel
theorem dX8_hashKinds_96 : decode cX8_hashKinds 96 = .ok (.invokestatic 402, 3) := by decide +kernel
theorem dX8_hashKinds_99 : decode cX8_hashKinds 99 = .ok (.lstore_n 3, 1) := by decide +kernel
theorem dX8_hashKinds_100 : decode cX8_hashKinds 100 = .ok (.lload_n 3, 1) := by decide +kernel
theorem dX8_hashKinds_101 : decode cX8_hashKinds 101 = .ok (.aload_n 0, 1) := by decide +kernel
theorem dX8_hashKinds_102 : decode cX8_hashKinds 102 = .ok (.iconst 0, 1) := by decide +kernel
theorem dX8_hashKinds_103 : decode cX8_hashKinds 103 = .ok (.invokevirtual 526, 3) := by decide +kernel
theorem dX8_hashKinds_106 : decode cX8_hashKinds 106 = .ok (.i2l, 1) := by decide +kernel
theorem dX8_hashKinds_107 : decode cX8_hashKinds 107 = .ok (.invokestatic 402, 3) := by decide +kernel
theorem dX8_hashKinds_110 : decode cX8_hashKinds 110 = .ok (.lstore_n 3, 1) := by decide +kernel
theorem dX8_hashKinds_111 : decode cX8_hashKinds 111 = .ok (.lload_n 3, 1) := by decide +kernel
theorem dX8_hashKinds_112 : decode cX8_hashKinds 112 = .ok (.aload_n 0, 1) := by decide +kernel
theorem dX8_hashKinds_113 : decode cX8_hashKinds 113 = .ok (.iconst 1, 1) := by decide +kernel
theorem dX8_hashKinds_114 : decode cX8_hashKinds 114 = .ok (.invokevirtual 526, 3) := by decide +kernel
theorem dX8_hashKinds_117 : decode cX8_hashKinds 117 = .ok (.i2l, 1) := by decide +kernel
theorem dX8_hashKinds_118 : decode cX8_hashKinds 118 = .ok (.invokestatic 402, 3) := by decide +kernel
theorem dX8_hashKinds_121 : decode cX8_hashKinds 121 = .ok (.lreturn, 1) := by decide +kernel
set_option maxRecDepth 20000 in
theorem ggX8_hashTrips_X8_trips : GoodIn wsX8_hashTrips wsX8_trips := goodIn_r _ [6, 1, 28, 29, 30, 31, 32, 33, 34, 35, 36, 37, 38, 39, 40, 41, 42, 43, 44, 45] (by decide +kernel) (by decide +kernel)
set_option maxRecDepth 20000 in
theorem gX8_hashTrips_X8_trips : GoodIn wsX8_hashTrips (wsV RX8 529 RX8 yX8_trips wsX8_trips) := goodIn_app (goodIn_of _ (by decide +kernel)) ggX8_hashTrips_X8_trips
set_option maxRecDepth 20000 in
theorem ggX8_hashTrips_X8_hashOn : GoodIn wsX8_hashTrips wsX8_hashOn := goodIn_r _ [9, 10] (by decide +kernel) (by decide +kernel)
set_option maxRecDepth 20000 in
theorem gX8_hashTrips_X8_hashOn : GoodIn wsX8_hashTrips (va_wsS RX8 402 yX8_hashOn wsX8_hashOn) := goodIn_app (goodIn_of _ (by decide +kernel)) ggX8_hashTrips_X8_hashOn
set_option maxRecDepth 20000 in
theorem ggX8_hashTrips_X8_tripTicks : GoodIn wsX8_hashTrips wsX8_tripTicks := goodIn_ca (goodIn_r _ [14, 1, 15, 16, 17, 5, 18, 19, 20, 28, 29, 30, 31, 32, 33, 34, 35, 36, 37, 38, 39, 40, 41, 42, 43, 44, 45] (by decide +kernel) (by decide +kernel)) (goodIn_sub (fun _ h => List.mem_cons_of_mem _ (List.mem_append_right _ h)) (by decide +kernel))
set_option maxRecDepth 20000 in
theorem gX8_hashTrips_X8_tripTicks : GoodIn wsX8_hashTrips (wsV RX8 532 RX8 yX8_tripTicks wsX8_tripTicks) := goodIn_app (goodIn_of _ (by decide +kernel)) ggX8_hashTrips_X8_tripTicks
set_option maxRecDepth 20000 in
theorem ggX8_hashTrips_X8_wasFetch : GoodIn wsX8_hashTrips wsX8_wasFetch := goodIn_ca (goodIn_r _ [24, 1, 15, 16, 17, 5, 18, 19, 20, 28, 29, 30, 31, 32, 33, 34, 35, 36, 37, 38, 39, 40, 41, 42, 43, 44, 45] (by decide +kernel) (by decide +kernel)) (goodIn_sub (fun _ h => List.mem_cons_of_mem _ (List.mem_append_right _ h)) (by decide +kernel))
set_option maxRecDepth 20000 in
theorem gX8_hashTrips_X8_wasFetch : GoodIn wsX8_hashTrips (wsV RX8 535 RX8 yX8_wasFetch wsX8_wasFetch) := goodIn_app (goodIn_of _ (by decide +kernel)) ggX8_hashTrips_X8_wasFetch
set_option maxRecDepth 20000 in
theorem ggX8_hashTrips_X8_hashOn_ : GoodIn wsX8_hashTrips wsX8_hashOn_ := goodIn_r _ [27, 7, 8, 5, 9, 10] (by decide +kernel) (by decide +kernel)
set_option maxRecDepth 20000 in
theorem gX8_hashTrips_X8_hashOn_ : GoodIn wsX8_hashTrips (va_wsS RX8 479 yX8_hashOn_ wsX8_hashOn_) := goodIn_app (goodIn_of _ (by decide +kernel)) ggX8_hashTrips_X8_hashOn_
theorem dX8_hashTrips_0 : decode cX8_hashTrips 0 = .ok (.lload_n 1, 1) := by decide +kernel
theorem dX8_hashTrips_1 : decode cX8_hashTrips 1 = .ok (.aload_n 0, 1) := by decide +kernel
theorem dX8_hashTrips_2 : decode cX8_hashTrips 2 = .ok (.invokevirtual 529, 3) := by decide +kernel
theorem dX8_hashTrips_5 : decode cX8_hashTrips 5 = .ok (.i2l, 1) := by decide +kernel
theorem dX8_hashTrips_6 : decode cX8_hashTrips 6 = .ok (.invokestatic 402, 3) := by decide +kernel
theorem dX8_hashTrips_9 : decode cX8_hashTrips 9 = .ok (.lstore_n 3, 1) := by decide +kernel
theorem dX8_hashTrips_10 : decode cX8_hashTrips 10 = .ok (.iconst 0, 1) := by decide +kernel
theorem dX8_hashTrips_11 : decode cX8_hashTrips 11 = .ok (.istore 5, 2) := by decide +kernel
theorem dX8_hashTrips_13 : decode cX8_hashTrips 13 = .ok (.iload 5, 2) := by decide +kernel
theorem dX8_hashTrips_15 : decode cX8_hashTrips 15 = .ok (.aload_n 0, 1) := by decide +kernel
theorem dX8_hashTrips_16 : decode cX8_hashTrips 16 = .ok (.getfield 12, 3) := by decide +kernel
theorem dX8_hashTrips_19 : decode cX8_hashTrips 19 = .ok (.getfield 232, 3) := by decide +kernel
theorem dX8_hashTrips_22 : decode cX8_hashTrips 22 = .ok (.getfield 304, 3) := by decide +kernel
theorem dX8_hashTrips_25 : decode cX8_hashTrips 25 = .ok (.if_icmp .ge 32, 3) := by decide +kernel
theorem dX8_hashTrips_28 : decode cX8_hashTrips 28 = .ok (.lload_n 3, 1) := by decide +kernel
theorem dX8_hashTrips_29 : decode cX8_hashTrips 29 = .ok (.aload_n 0, 1) := by decide +kernel
theorem dX8_hashTrips_30 : decode cX8_hashTrips 30 = .ok (.iload 5, 2) := by decide +kernel
theorem dX8_hashTrips_32 : decode cX8_hashTrips 32 = .ok (.invokevirtual 532, 3) := by decide +kernel
theorem dX8_hashTrips_35 : decode cX8_hashTrips 35 = .ok (.i2l, 1) := by decide +kernel
theorem dX8_hashTrips_36 : decode cX8_hashTrips 36 = .ok (.invokestatic 402, 3) := by decide +kernel
theorem dX8_hashTrips_39 : decode cX8_hashTrips 39 = .ok (.lstore_n 3, 1) := by decide +kernel
theorem dX8_hashTrips_40 : decode cX8_hashTrips 40 = .ok (.lload_n 3, 1) := by decide +kernel
theorem dX8_hashTrips_41 : decode cX8_hashTrips 41 = .ok (.aload_n 0, 1) := by decide +kernel
theorem dX8_hashTrips_42 : decode cX8_hashTrips 42 = .ok (.iload 5, 2) := by decide +kernel
theorem dX8_hashTrips_44 : decode cX8_hashTrips 44 = .ok (.invokevirtual 535, 3) := by decide +kernel
theorem dX8_hashTrips_47 : decode cX8_hashTrips 47 = .ok (.invokestatic 479, 3) := by decide +kernel
theorem dX8_hashTrips_50 : decode cX8_hashTrips 50 = .ok (.lstore_n 3, 1) := by decide +kernel
theorem dX8_hashTrips_51 : decode cX8_hashTrips 51 = .ok (.iinc 5 1, 3) := by decide +kernel
theorem dX8_hashTrips_54 : decode cX8_hashTrips 54 = .ok (.goto (-41), 3) := by decide +kernel
theorem dX8_hashTrips_57 : decode cX8_hashTrips 57 = .ok (.lload_n 3, 1) := by decide +kernel
theorem dX8_hashTrips_58 : decode cX8_hashTrips 58 = .ok (.lreturn, 1) := by decide +kernel
set_option maxRecDepth 20000 in
theorem ggX8_hashOrders_X8_orders : GoodIn wsX8_hashOrders wsX8_orders := goodIn_r _ [6, 1, 81, 82, 83, 84, 85, 86, 87, 88, 89, 90, 91, 92, 93] (by decide +kernel) (by decide +kernel)
set_option maxRecDepth 20000 in
theorem gX8_hashOrders_X8_orders : GoodIn wsX8_hashOrders (wsV RX8 538 RX8 yX8_orders wsX8_orders) := goodIn_app (goodIn_of _ (by decide +kernel)) ggX8_hashOrders_X8_orders
set_option maxRecDepth 20000 in
theorem ggX8_hashOrders_X8_hashOn : GoodIn wsX8_hashOrders wsX8_hashOn := goodIn_r _ [9, 10] (by decide +kernel) (by decide +kernel)
set_option maxRecDepth 20000 in
theorem gX8_hashOrders_X8_hashOn : GoodIn wsX8_hashOrders (va_wsS RX8 402 yX8_hashOn wsX8_hashOn) := goodIn_app (goodIn_of _ (by decide +kernel)) ggX8_hashOrders_X8_hashOn
set_option maxRecDepth 20000 in
theorem ggX8_hashOrders_X8_wanted : GoodIn wsX8_hashOrders wsX8_wanted := goodIn_ca (goodIn_r _ [14, 1, 15, 16, 17, 5, 18, 19, 20, 21, 22, 23, 24, 25, 26, 27, 28, 29, 81, 82, 83, 84, 85, 86, 87, 88, 89, 90, 91, 92, 93] (by decide +kernel) (by decide +kernel)) (goodIn_sub (fun _ h => List.mem_cons_of_mem _ (List.mem_append_right _ h)) (by decide +kernel))
set_option maxRecDepth 20000 in
theorem gX8_hashOrders_X8_wanted : GoodIn wsX8_hashOrders (wsV RX8 541 RX8 yX8_wanted wsX8_wanted) := goodIn_app (goodIn_of _ (by decide +kernel)) ggX8_hashOrders_X8_wanted
set_option maxRecDepth 20000 in
theorem ggX8_hashOrders_X6_isServable : GoodIn wsX8_hashOrders wsX6_isServable := goodIn_r _ [33, 34, 35, 36, 37, 31, 38, 39, 25, 26, 27, 28, 29, 40, 41, 42, 43, 44, 87, 88, 89, 90, 91, 94, 95, 96, 97, 98, 99, 92, 93] (by decide +kernel) (by decide +kernel)
set_option maxRecDepth 20000 in
theorem gX8_hashOrders_X6_isServable_n329 : GoodIn wsX8_hashOrders (wsX6_isServable) := ggX8_hashOrders_X6_isServable
set_option maxRecDepth 20000 in
theorem ggX8_hashOrders_X8_hashOn_ : GoodIn wsX8_hashOrders wsX8_hashOn_ := goodIn_r _ [47, 7, 8, 5, 9, 10] (by decide +kernel) (by decide +kernel)
set_option maxRecDepth 20000 in
theorem gX8_hashOrders_X8_hashOn_ : GoodIn wsX8_hashOrders (va_wsS RX8 479 yX8_hashOn_ wsX8_hashOn_) := goodIn_app (goodIn_of _ (by decide +kernel)) ggX8_hashOrders_X8_hashOn_
set_option maxRecDepth 20000 in
theorem ggX8_hashOrders_X6_choice : GoodIn wsX8_hashOrders wsX6_choice := goodIn_r _ [50, 51, 52, 53, 31, 54, 34, 39, 25, 26, 27, 28, 29, 40, 41, 42, 43, 44, 55, 56, 57, 58, 59, 60, 61, 35, 36, 37, 38, 87, 88, 89, 90, 91, 94, 95, 96, 97, 98, 99, 92, 93] (by decide +kernel) (by decide +kernel)
set_option maxRecDepth 20000 in
theorem gX8_hashOrders_X6_choice_n332 : GoodIn wsX8_hashOrders (wsX6_choice) := ggX8_hashOrders_X6_choice
set_option maxRecDepth 20000 in
theorem ggX8_hashOrders_J6_bitCount_0f7a4 : GoodIn wsX8_hashOrders wsJ6_bitCount_0f7a4 := goodIn_r _ [58, 59, 60, 61] (by decide +kernel) (by decide +kernel)
set_option maxRecDepth 20000 in
theorem gX8_hashOrders_J6_bitCount_0f7a4 : GoodIn wsX8_hashOrders (va_wsS RX8 335 yJ6_bitCount_0f7a4 wsJ6_bitCount_0f7a4) := goodIn_app (goodIn_of _ (by decide +kernel)) ggX8_hashOrders_J6_bitCount_0f7a4
set_option maxRecDepth 20000 in
theorem ggX8_hashOrders_X8_fewestFound : GoodIn wsX8_hashOrders wsX8_fewestFound := goodIn_r _ [66, 67, 1, 25, 26, 27, 28, 29, 68, 69, 5, 70, 71, 72, 73, 74, 41, 75, 76, 77, 40, 42, 43, 44, 78, 79, 80, 81, 82, 83, 84, 85, 86, 87, 88, 89, 90, 91, 92, 93, 94, 95, 96, 97, 98, 99] (by decide +kernel) (by decide +kernel)
set_option maxRecDepth 20000 in
theorem gX8_hashOrders_X8_fewestFound : GoodIn wsX8_hashOrders (wsV RX8 340 RX8 yX8_fewestFound wsX8_fewestFound) := goodIn_app (goodIn_of _ (by decide +kernel)) ggX8_hashOrders_X8_fewestFound
theorem dX8_hashOrders_0 : decode cX8_hashOrders 0 = .ok (.lload_n 1, 1) := by decide +kernel
theorem dX8_hashOrders_1 : decode cX8_hashOrders 1 = .ok (.aload_n 0, 1) := by decide +kernel
theorem dX8_hashOrders_2 : decode cX8_hashOrders 2 = .ok (.invokevirtual 538, 3) := by decide +kernel
theorem dX8_hashOrders_5 : decode cX8_hashOrders 5 = .ok (.i2l, 1) := by decide +kernel
theorem dX8_hashOrders_6 : decode cX8_hashOrders 6 = .ok (.invokestatic 402, 3) := by decide +kernel
theorem dX8_hashOrders_9 : decode cX8_hashOrders 9 = .ok (.lstore_n 3, 1) := by decide +kernel
theorem dX8_hashOrders_10 : decode cX8_hashOrders 10 = .ok (.iconst 0, 1) := by decide +kernel
theorem dX8_hashOrders_11 : decode cX8_hashOrders 11 = .ok (.istore 5, 2) := by decide +kernel
theorem dX8_hashOrders_13 : decode cX8_hashOrders 13 = .ok (.iload 5, 2) := by decide +kernel
theorem dX8_hashOrders_15 : decode cX8_hashOrders 15 = .ok (.aload_n 0, 1) := by decide +kernel
theorem dX8_hashOrders_16 : decode cX8_hashOrders 16 = .ok (.getfield 12, 3) := by decide +kernel
theorem dX8_hashOrders_19 : decode cX8_hashOrders 19 = .ok (.getfield 179, 3) := by decide +kernel
theorem dX8_hashOrders_22 : decode cX8_hashOrders 22 = .ok (.getfield 183, 3) := by decide +kernel
theorem dX8_hashOrders_25 : decode cX8_hashOrders 25 = .ok (.if_icmp .ge 104, 3) := by decide +kernel
theorem dX8_hashOrders_28 : decode cX8_hashOrders 28 = .ok (.iconst 0, 1) := by decide +kernel
theorem dX8_hashOrders_29 : decode cX8_hashOrders 29 = .ok (.istore 6, 2) := by decide +kernel
theorem dX8_hashOrders_31 : decode cX8_hashOrders 31 = .ok (.iload 6, 2) := by decide +kernel
theorem dX8_hashOrders_33 : decode cX8_hashOrders 33 = .ok (.bipush 10, 2) := by decide +kernel
theorem dX8_hashOrders_35 : decode cX8_hashOrders 35 = .ok (.if_icmp .ge 23, 3) := by decide +kernel
theorem dX8_hashOrders_38 : decode cX8_hashOrders 38 = .ok (.lload_n 3, 1) := by decide +kernel
theorem dX8_hashOrders_39 : decode cX8_hashOrders 39 = .ok (.aload_n 0, 1) := by decide +kernel
theorem dX8_hashOrders_40 : decode cX8_hashOrders 40 = .ok (.iload 5, 2) := by decide +kernel
theorem dX8_hashOrders_42 : decode cX8_hashOrders 42 = .ok (.iload 6, 2) := by decide +kernel
theorem dX8_hashOrders_44 : decode cX8_hashOrders 44 = .ok (.invokevirtual 541, 3) := by decide +kernel
theorem dX8_hashOrders_47 : decode cX8_hashOrders 47 = .ok (.i2l, 1) := by decide +kernel
theorem dX8_hashOrders_48 : decode cX8_hashOrders 48 = .ok (.invokestatic 402, 3) := by decide +kernel
theorem dX8_hashOrders_51 : decode cX8_hashOrders 51 = .ok (.lstore_n 3, 1) := by decide +kernel
theorem dX8_hashOrders_52 : decode cX8_hashOrders 52 = .ok (.iinc 6 1, 3) := by decide +kernel
theorem dX8_hashOrders_55 : decode cX8_hashOrders 55 = .ok (.goto (-24), 3) := by decide +kernel
theorem dX8_hashOrders_58 : decode cX8_hashOrders 58 = .ok (.aload_n 0, 1) := by decide +kernel
theorem dX8_hashOrders_59 : decode cX8_hashOrders 59 = .ok (.getfield 12, 3) := by decide +kernel
theorem dX8_hashOrders_62 : decode cX8_hashOrders 62 = .ok (.iload 5, 2) := by decide +kernel
theorem dX8_hashOrders_64 : decode cX8_hashOrders 64 = .ok (.invokevirtual 329, 3) := by decide +kernel
theorem dX8_hashOrders_67 : decode cX8_hashOrders 67 = .ok (.istore 6, 2) := by decide +kernel
theorem dX8_hashOrders_69 : decode cX8_hashOrders 69 = .ok (.lload_n 3, 1) := by decide +kernel
theorem dX8_hashOrders_70 : decode cX8_hashOrders 70 = .ok (.iload 6, 2) := by decide +kernel
theorem dX8_hashOrders_72 : decode cX8_hashOrders 72 = .ok (.invokestatic 479, 3) := by decide +kernel
theorem dX8_hashOrders_75 : decode cX8_hashOrders 75 = .ok (.lstore_n 3, 1) := by decide +kernel
theorem dX8_hashOrders_76 : decode cX8_hashOrders 76 = .ok (.iload 6, 2) := by decide +kernel
theorem dX8_hashOrders_78 : decode cX8_hashOrders 78 = .ok (.ifCond .eq 45, 3) := by decide +kernel
theorem dX8_hashOrders_81 : decode cX8_hashOrders 81 = .ok (.aload_n 0, 1) := by decide +kernel
theorem dX8_hashOrders_82 : decode cX8_hashOrders 82 = .ok (.getfield 12, 3) := by decide +kernel
theorem dX8_hashOrders_85 : decode cX8_hashOrders 85 = .ok (.iload 5, 2) := by decide +kernel
theorem dX8_hashOrders_87 : decode cX8_hashOrders 87 = .ok (.invokevirtual 332, 3) := by decide +kernel
theorem dX8_hashOrders_90 : decode cX8_hashOrders 90 = .ok (.istore 7, 2) := by decide +kernel
theorem dX8_hashOrders_92 : decode cX8_hashOrders 92 = .ok (.lload_n 3, 1) := by decide +kernel
theorem dX8_hashOrders_93 : decode cX8_hashOrders 93 = .ok (.iload 7, 2) := by decide +kernel
theorem dX8_hashOrders_95 : decode cX8_hashOrders 95 = .ok (.invokestatic 335, 3) := by decide +kernel
theorem dX8_hashOrders_98 : decode cX8_hashOrders 98 = .ok (.i2l, 1) := by decide +kernel
theorem dX8_hashOrders_99 : decode cX8_hashOrders 99 = .ok (.invokestatic 402, 3) := by decide +kernel
theorem dX8_hashOrders_102 : decode cX8_hashOrders 102 = .ok (.lstore_n 3, 1) := by decide +kernel
theorem dX8_hashOrders_103 : decode cX8_hashOrders 103 = .ok (.lload_n 3, 1) := by decide +kernel
theorem dX8_hashOrders_104 : decode cX8_hashOrders 104 = .ok (.aload_n 0, 1) := by decide +kernel
theorem dX8_hashOrders_105 : decode cX8_hashOrders 105 = .ok (.iload 5, 2) := by decide +kernel
theorem dX8_hashOrders_107 : decode cX8_hashOrders 107 = .ok (.invokevirtual 340, 3) := by decide +kernel
theorem dX8_hashOrders_110 : decode cX8_hashOrders 110 = .ok (.i2l, 1) := by decide +kernel
theorem dX8_hashOrders_111 : decode cX8_hashOrders 111 = .ok (.invokestatic 402, 3) := by decide +kernel
theorem dX8_hashOrders_114 : decode cX8_hashOrders 114 = .ok (.lstore_n 3, 1) := by decide +kernel
theorem dX8_hashOrders_115 : decode cX8_hashOrders 115 = .ok (.lload_n 3, 1) := by decide +kernel
theorem dX8_hashOrders_116 : decode cX8_hashOrders 116 = .ok (.iload 7, 2) := by decide +kernel
theorem dX8_hashOrders_118 : decode cX8_hashOrders 118 = .ok (.i2l, 1) := by decide +kernel
theorem dX8_hashOrders_119 : decode cX8_hashOrders 119 = .ok (.invokestatic 402, 3) := by decide +kernel
theorem dX8_hashOrders_122 : decode cX8_hashOrders 122 = .ok (.lstore_n 3, 1) := by decide +kernel
theorem dX8_hashOrders_123 : decode cX8_hashOrders 123 = .ok (.iinc 5 1, 3) := by decide +kernel
theorem dX8_hashOrders_126 : decode cX8_hashOrders 126 = .ok (.goto (-113), 3) := by decide +kernel
theorem dX8_hashOrders_129 : decode cX8_hashOrders 129 = .ok (.lload_n 3, 1) := by decide +kernel
theorem dX8_hashOrders_130 : decode cX8_hashOrders 130 = .ok (.lreturn, 1) := by decide +kernel
set_option maxRecDepth 20000 in
theorem ggX8_hashAccounts_X8_ticks : GoodIn wsX8_hashAccounts wsX8_ticks := goodIn_r _ [6, 1, 75, 76, 77, 78, 79, 80, 81, 82, 83, 84, 85, 86, 87, 88, 89, 90, 91, 92] (by decide +kernel) (by decide +kernel)
set_option maxRecDepth 20000 in
theorem gX8_hashAccounts_X8_ticks : GoodIn wsX8_hashAccounts (wsV RX8 544 RX8 yX8_ticks wsX8_ticks) := goodIn_app (goodIn_of _ (by decide +kernel)) ggX8_hashAccounts_X8_ticks
set_option maxRecDepth 20000 in
theorem ggX8_hashAccounts_X8_hashOn : GoodIn wsX8_hashAccounts wsX8_hashOn := goodIn_r _ [9, 10] (by decide +kernel) (by decide +kernel)
set_option maxRecDepth 20000 in
theorem gX8_hashAccounts_X8_hashOn : GoodIn wsX8_hashAccounts (va_wsS RX8 402 yX8_hashOn wsX8_hashOn) := goodIn_app (goodIn_of _ (by decide +kernel)) ggX8_hashAccounts_X8_hashOn
set_option maxRecDepth 20000 in
theorem ggX8_hashAccounts_X8_fetches : GoodIn wsX8_hashAccounts wsX8_fetches := goodIn_r _ [14, 1, 75, 76, 77, 78, 79, 80, 81, 82, 83, 84, 85, 86, 87, 88, 89, 90, 91, 92] (by decide +kernel) (by decide +kernel)
set_option maxRecDepth 20000 in
theorem gX8_hashAccounts_X8_fetches : GoodIn wsX8_hashAccounts (wsV RX8 547 RX8 yX8_fetches wsX8_fetches) := goodIn_app (goodIn_of _ (by decide +kernel)) ggX8_hashAccounts_X8_fetches
set_option maxRecDepth 20000 in
theorem ggX8_hashAccounts_X8_served : GoodIn wsX8_hashAccounts wsX8_served := goodIn_r _ [18, 1, 75, 76, 77, 78, 79, 80, 81, 82, 83, 84, 85] (by decide +kernel) (by decide +kernel)
set_option maxRecDepth 20000 in
theorem gX8_hashAccounts_X8_served : GoodIn wsX8_hashAccounts (wsV RX8 550 RX8 yX8_served wsX8_served) := goodIn_app (goodIn_of _ (by decide +kernel)) ggX8_hashAccounts_X8_served
set_option maxRecDepth 20000 in
theorem ggX8_hashAccounts_X6_findHeaviest : GoodIn wsX8_hashAccounts wsX6_findHeaviest := goodIn_r _ [22, 23, 24, 25, 26, 20, 27, 28, 29, 30, 31, 32, 33, 81, 82, 83, 84, 85, 93, 94, 95, 96, 97, 98, 99, 100, 101, 102] (by decide +kernel) (by decide +kernel)
set_option maxRecDepth 20000 in
theorem gX8_hashAccounts_X6_findHeaviest_n368 : GoodIn wsX8_hashAccounts (wsX6_findHeaviest) := ggX8_hashAccounts_X6_findHeaviest
set_option maxRecDepth 20000 in
theorem ggX8_hashAccounts_X7_mostUsed : GoodIn wsX8_hashAccounts wsX7_mostUsed := goodIn_r _ [36, 37, 38, 93, 94, 95, 96, 97, 98] (by decide +kernel) (by decide +kernel)
set_option maxRecDepth 20000 in
theorem gX8_hashAccounts_X7_mostUsed_n371 : GoodIn wsX8_hashAccounts (wsX7_mostUsed) := ggX8_hashAccounts_X7_mostUsed
set_option maxRecDepth 20000 in
theorem ggX8_hashAccounts_X8_usedWays : GoodIn wsX8_hashAccounts wsX8_usedWays := goodIn_r _ [42, 1, 43, 30, 44, 45, 37, 46, 38, 47, 48, 49, 75, 76, 77, 78, 79, 80, 81, 82, 83, 84, 85, 93, 94, 95, 96, 97, 98] (by decide +kernel) (by decide +kernel)
set_option maxRecDepth 20000 in
theorem gX8_hashAccounts_X8_usedWays : GoodIn wsX8_hashAccounts (wsV RX8 553 RX8 yX8_usedWays wsX8_usedWays) := goodIn_app (goodIn_of _ (by decide +kernel)) ggX8_hashAccounts_X8_usedWays
set_option maxRecDepth 20000 in
theorem ggX8_hashAccounts_X8_savedStates : GoodIn wsX8_hashAccounts wsX8_savedStates := goodIn_r _ [53, 54, 75, 76, 77, 78, 79, 80, 103, 104, 105] (by decide +kernel) (by decide +kernel)
set_option maxRecDepth 20000 in
theorem gX8_hashAccounts_X8_savedStates : GoodIn wsX8_hashAccounts (wsV RX8 556 RX8 yX8_savedStates wsX8_savedStates) := goodIn_app (goodIn_of _ (by decide +kernel)) ggX8_hashAccounts_X8_savedStates
set_option maxRecDepth 20000 in
theorem ggX8_hashAccounts_X8_meanTicks : GoodIn wsX8_hashAccounts wsX8_meanTicks := goodIn_r _ [58, 1, 59, 60, 5, 61, 75, 76, 77, 78, 79, 80, 81, 82, 83, 84, 85, 86, 87, 88, 89, 90, 91, 92] (by decide +kernel) (by decide +kernel)
set_option maxRecDepth 20000 in
theorem gX8_hashAccounts_X8_meanTicks : GoodIn wsX8_hashAccounts (wsV RX8 559 RX8 yX8_meanTicks wsX8_meanTicks) := goodIn_app (goodIn_of _ (by decide +kernel)) ggX8_hashAccounts_X8_meanTicks
set_option maxRecDepth 20000 in
theorem ggX8_hashAccounts_X8_bitsOf : GoodIn wsX8_hashAccounts wsX8_bitsOf := goodIn_r _ [64, 65, 66, 67] (by decide +kernel) (by decide +kernel)
set_option maxRecDepth 20000 in
theorem gX8_hashAccounts_X8_bitsOf : GoodIn wsX8_hashAccounts (va_wsS RX8 563 yX8_bitsOf wsX8_bitsOf) := goodIn_app (goodIn_of _ (by decide +kernel)) ggX8_hashAccounts_X8_bitsOf
set_option maxRecDepth 20000 in
theorem ggX8_hashAccounts_X8_meanWay : GoodIn wsX8_hashAccounts wsX8_meanWay := goodIn_r _ [71, 1, 43, 30, 44, 45, 37, 46, 38, 47, 48, 49, 72, 73, 74, 59, 60, 5, 61, 75, 76, 77, 78, 79, 80, 81, 82, 83, 84, 85, 93, 94, 95, 96, 97, 98] (by decide +kernel) (by decide +kernel)
set_option maxRecDepth 20000 in
theorem gX8_hashAccounts_X8_meanWay : GoodIn wsX8_hashAccounts (wsV RX8 567 RX8 yX8_meanWay wsX8_meanWay) := goodIn_app (goodIn_of _ (by decide +kernel)) ggX8_hashAccounts_X8_meanWay
theorem dX8_hashAccounts_0 : decode cX8_hashAccounts 0 = .ok (.lload_n 1, 1) := by decide +kernel
theorem dX8_hashAccounts_1 : decode cX8_hashAccounts 1 = .ok (.aload_n 0, 1) := by decide +kernel
theorem dX8_hashAccounts_2 : decode cX8_hashAccounts 2 = .ok (.invokevirtual 544, 3) := by decide +kernel
theorem dX8_hashAccounts_5 : decode cX8_hashAccounts 5 = .ok (.i2l, 1) := by decide +kernel
theorem dX8_hashAccounts_6 : decode cX8_hashAccounts 6 = .ok (.invokestatic 402, 3) := by decide +kernel
theorem dX8_hashAccounts_9 : decode cX8_hashAccounts 9 = .ok (.lstore_n 3, 1) := by decide +kernel
theorem dX8_hashAccounts_10 : decode cX8_hashAccounts 10 = .ok (.lload_n 3, 1) := by decide +kernel
theorem dX8_hashAccounts_11 : decode cX8_hashAccounts 11 = .ok (.aload_n 0, 1) := by decide +kernel
theorem dX8_hashAccounts_12 : decode cX8_hashAccounts 12 = .ok (.invokevirtual 547, 3) := by decide +kernel
theorem dX8_hashAccounts_15 : decode cX8_hashAccounts 15 = .ok (.i2l, 1) := by decide +kernel
theorem dX8_hashAccounts_16 : decode cX8_hashAccounts 16 = .ok (.invokestatic 402, 3) := by decide +kernel
theorem dX8_hashAccounts_19 : decode cX8_hashAccounts 19 = .ok (.lstore_n 3, 1) := by decide +kernel
theorem dX8_hashAccounts_20 : decode cX8_hashAccounts 20 = .ok (.lload_n 3, 1) := by decide +kernel
theorem dX8_hashAccounts_21 : decode cX8_hashAccounts 21 = .ok (.aload_n 0, 1) := by decide +kernel
theorem dX8_hashAccounts_22 : decode cX8_hashAccounts 22 = .ok (.invokevirtual 550, 3) := by decide +kernel
theorem dX8_hashAccounts_25 : decode cX8_hashAccounts 25 = .ok (.i2l, 1) := by decide +kernel
theorem dX8_hashAccounts_26 : decode cX8_hashAccounts 26 = .ok (.invokestatic 402, 3) := by decide +kernel
theorem dX8_hashAccounts_29 : decode cX8_hashAccounts 29 = .ok (.lstore_n 3, 1) := by decide +kernel
theorem dX8_hashAccounts_30 : decode cX8_hashAccounts 30 = .ok (.lload_n 3, 1) := by decide +kernel
theorem dX8_hashAccounts_31 : decode cX8_hashAccounts 31 = .ok (.aload_n 0, 1) := by decide +kernel
theorem dX8_hashAccounts_32 : decode cX8_hashAccounts 32 = .ok (.getfield 12, 3) := by decide +kernel
theorem dX8_hashAccounts_35 : decode cX8_hashAccounts 35 = .ok (.invokevirtual 368, 3) := by decide +kernel
theorem dX8_hashAccounts_38 : decode cX8_hashAccounts 38 = .ok (.iconst 1, 1) := by decide +kernel
theorem dX8_hashAccounts_39 : decode cX8_hashAccounts 39 = .ok (.iadd, 1) := by decide +kernel
theorem dX8_hashAccounts_40 : decode cX8_hashAccounts 40 = .ok (.i2l, 1) := by decide +kernel
theorem dX8_hashAccounts_41 : decode cX8_hashAccounts 41 = .ok (.invokestatic 402, 3) := by decide +kernel
theorem dX8_hashAccounts_44 : decode cX8_hashAccounts 44 = .ok (.lstore_n 3, 1) := by decide +kernel
theorem dX8_hashAccounts_45 : decode cX8_hashAccounts 45 = .ok (.lload_n 3, 1) := by decide +kernel
theorem dX8_hashAccounts_46 : decode cX8_hashAccounts 46 = .ok (.aload_n 0, 1) := by decide +kernel
theorem dX8_hashAccounts_47 : decode cX8_hashAccounts 47 = .ok (.getfield 12, 3) := by decide +kernel
theorem dX8_hashAccounts_50 : decode cX8_hashAccounts 50 = .ok (.getfield 44, 3) := by decide +kernel
theorem dX8_hashAccounts_53 : decode cX8_hashAccounts 53 = .ok (.iconst 0, 1) := by decide +kernel
theorem dX8_hashAccounts_54 : decode cX8_hashAccounts 54 = .ok (.invokevirtual 371, 3) := by decide +kernel
theorem dX8_hashAccounts_57 : decode cX8_hashAccounts 57 = .ok (.iconst 1, 1) := by decide +kernel
theorem dX8_hashAccounts_58 : decode cX8_hashAccounts 58 = .ok (.iadd, 1) := by decide +kernel
theorem dX8_hashAccounts_59 : decode cX8_hashAccounts 59 = .ok (.i2l, 1) := by decide +kernel
theorem dX8_hashAccounts_60 : decode cX8_hashAccounts 60 = .ok (.invokestatic 402, 3) := by decide +kernel
theorem dX8_hashAccounts_63 : decode cX8_hashAccounts 63 = .ok (.lstore_n 3, 1) := by decide +kernel
theorem dX8_hashAccounts_64 : decode cX8_hashAccounts 64 = .ok (.lload_n 3, 1) := by decide +kernel
theorem dX8_hashAccounts_65 : decode cX8_hashAccounts 65 = .ok (.aload_n 0, 1) := by decide +kernel
theorem dX8_hashAccounts_66 : decode cX8_hashAccounts 66 = .ok (.invokevirtual 553, 3) := by decide +kernel
theorem dX8_hashAccounts_69 : decode cX8_hashAccounts 69 = .ok (.i2l, 1) := by decide +kernel
theorem dX8_hashAccounts_70 : decode cX8_hashAccounts 70 = .ok (.invokestatic 402, 3) := by decide +kernel
theorem dX8_hashAccounts_73 : decode cX8_hashAccounts 73 = .ok (.lstore_n 3, 1) := by decide +kernel
theorem dX8_hashAccounts_74 : decode cX8_hashAccounts 74 = .ok (.lload_n 3, 1) := by decide +kernel
theorem dX8_hashAccounts_75 : decode cX8_hashAccounts 75 = .ok (.aload_n 0, 1) := by decide +kernel
theorem dX8_hashAccounts_76 : decode cX8_hashAccounts 76 = .ok (.invokevirtual 556, 3) := by decide +kernel
theorem dX8_hashAccounts_79 : decode cX8_hashAccounts 79 = .ok (.i2l, 1) := by decide +kernel
theorem dX8_hashAccounts_80 : decode cX8_hashAccounts 80 = .ok (.invokestatic 402, 3) := by decide +kernel
theorem dX8_hashAccounts_83 : decode cX8_hashAccounts 83 = .ok (.lstore_n 3, 1) := by decide +kernel
theorem dX8_hashAccounts_84 : decode cX8_hashAccounts 84 = .ok (.lload_n 3, 1) := by decide +kernel
theorem dX8_hashAccounts_85 : decode cX8_hashAccounts 85 = .ok (.aload_n 0, 1) := by decide +kernel
theorem dX8_hashAccounts_86 : decode cX8_hashAccounts 86 = .ok (.invokevirtual 559, 3) := by decide +kernel
theorem dX8_hashAccounts_89 : decode cX8_hashAccounts 89 = .ok (.invokestatic 563, 3) := by decide +kernel
theorem dX8_hashAccounts_92 : decode cX8_hashAccounts 92 = .ok (.invokestatic 402, 3) := by decide +kernel
theorem dX8_hashAccounts_95 : decode cX8_hashAccounts 95 = .ok (.lstore_n 3, 1) := by decide +kernel
theorem dX8_hashAccounts_96 : decode cX8_hashAccounts 96 = .ok (.lload_n 3, 1) := by decide +kernel
theorem dX8_hashAccounts_97 : decode cX8_hashAccounts 97 = .ok (.aload_n 0, 1) := by decide +kernel
theorem dX8_hashAccounts_98 : decode cX8_hashAccounts 98 = .ok (.invokevirtual 567, 3) := by decide +kernel
theorem dX8_hashAccounts_101 : decode cX8_hashAccounts 101 = .ok (.invokestatic 563, 3) := by decide +kernel
theorem dX8_hashAccounts_104 : decode cX8_hashAccounts 104 = .ok (.invokestatic 402, 3) := by decide +kernel
theorem dX8_hashAccounts_107 : decode cX8_hashAccounts 107 = .ok (.lreturn, 1) := by decide +kernel
set_option maxRecDepth 20000 in
theorem ggX8_hashTexts_X8_hashOn_ : GoodIn wsX8_hashTexts wsX8_hashOn_ := goodIn_r _ [6, 7, 8, 5, 9, 10] (by decide +kernel) (by decide +kernel)
set_option maxRecDepth 20000 in
theorem gX8_hashTexts_X8_hashOn_ : GoodIn wsX8_hashTexts (va_wsS RX8 479 yX8_hashOn_ wsX8_hashOn_) := goodIn_app (goodIn_of _ (by decide +kernel)) ggX8_hashTexts_X8_hashOn_
set_option maxRecDepth 20000 in
theorem ggX8_hashTexts_X8_hashOn : GoodIn wsX8_hashTexts wsX8_hashOn := goodIn_r _ [9, 10] (by decide +kernel) (by decide +kernel)
set_option maxRecDepth 20000 in
theorem gX8_hashTexts_X8_hashOn : GoodIn wsX8_hashTexts (va_wsS RX8 402 yX8_hashOn wsX8_hashOn) := goodIn_app (goodIn_of _ (by decide +kernel)) ggX8_hashTexts_X8_hashOn
theorem dX8_hashTexts_0 : decode cX8_hashTexts 0 = .ok (.lload_n 1, 1) := by decide +kernel
theorem dX8_hashTexts_1 : decode cX8_hashTexts 1 = .ok (.lstore_n 3, 1) := by decide +kernel
theorem dX8_hashTexts_2 : decode cX8_hashTexts 2 = .ok (.iconst 0, 1) := by decide +kernel
theorem dX8_hashTexts_3 : decode cX8_hashTexts 3 = .ok (.istore 5, 2) := by decide +kernel
theorem dX8_hashTexts_5 : decode cX8_hashTexts 5 = .ok (.iload 5, 2) := by decide +kernel
theorem dX8_hashTexts_7 : decode cX8_hashTexts 7 = .ok (.iconst 2, 1) := by decide +kernel
theorem dX8_hashTexts_8 : decode cX8_hashTexts 8 = .ok (.if_icmp .ge 32, 3) := by decide +kernel
theorem dX8_hashTexts_11 : decode cX8_hashTexts 11 = .ok (.lload_n 3, 1) := by decide +kernel
theorem dX8_hashTexts_12 : decode cX8_hashTexts 12 = .ok (.aload_n 0, 1) := by decide +kernel
theorem dX8_hashTexts_13 : decode cX8_hashTexts 13 = .ok (.getfield 22, 3) := by decide +kernel
theorem dX8_hashTexts_16 : decode cX8_hashTexts 16 = .ok (.getfield 259, 3) := by decide +kernel
theorem dX8_hashTexts_19 : decode cX8_hashTexts 19 = .ok (.iload 5, 2) := by decide +kernel
theorem dX8_hashTexts_21 : decode cX8_hashTexts 21 = .ok (.aaload, 1) := by decide +kernel
theorem dX8_hashTexts_22 : decode cX8_hashTexts 22 = .ok (.ifnull 7, 3) := by decide +kernel
theorem dX8_hashTexts_25 : decode cX8_hashTexts 25 = .ok (.iconst 1, 1) := by decide +kernel
theorem dX8_hashTexts_26 : decode cX8_hashTexts 26 = .ok (.goto 4, 3) := by decide +kernel
theorem dX8_hashTexts_29 : decode cX8_hashTexts 29 = .ok (.iconst 0, 1) := by decide +kernel
theorem dX8_hashTexts_30 : decode cX8_hashTexts 30 = .ok (.invokestatic 479, 3) := by decide +kernel
theorem dX8_hashTexts_33 : decode cX8_hashTexts 33 = .ok (.lstore_n 3, 1) := by decide +kernel
theorem dX8_hashTexts_34 : decode cX8_hashTexts 34 = .ok (.iinc 5 1, 3) := by decide +kernel
theorem dX8_hashTexts_37 : decode cX8_hashTexts 37 = .ok (.goto (-32), 3) := by decide +kernel
theorem dX8_hashTexts_40 : decode cX8_hashTexts 40 = .ok (.lload_n 3, 1) := by decide +kernel
theorem dX8_hashTexts_41 : decode cX8_hashTexts 41 = .ok (.aload_n 0, 1) := by decide +kernel
theorem dX8_hashTexts_42 : decode cX8_hashTexts 42 = .ok (.getfield 29, 3) := by decide +kernel
theorem dX8_hashTexts_45 : decode cX8_hashTexts 45 = .ok (.getfield 200, 3) := by decide +kernel
theorem dX8_hashTexts_48 : decode cX8_hashTexts 48 = .ok (.i2l, 1) := by decide +kernel
theorem dX8_hashTexts_49 : decode cX8_hashTexts 49 = .ok (.invokestatic 402, 3) := by decide +kernel
theorem dX8_hashTexts_52 : decode cX8_hashTexts 52 = .ok (.lstore_n 3, 1) := by decide +kernel
theorem dX8_hashTexts_53 : decode cX8_hashTexts 53 = .ok (.iconst 0, 1) := by decide +kernel
theorem dX8_hashTexts_54 : decode cX8_hashTexts 54 = .ok (.istore 5, 2) := by decide +kernel
theorem dX8_hashTexts_56 : decode cX8_hashTexts 56 = .ok (.iload 5, 2) := by decide +kernel
theorem dX8_hashTexts_58 : decode cX8_hashTexts 58 = .ok (.aload_n 0, 1) := by decide +kernel
theorem dX8_hashTexts_59 : decode cX8_hashTexts 59 = .ok (.getfield 29, 3) := by decide +kernel
theorem dX8_hashTexts_62 : decode cX8_hashTexts 62 = .ok (.getfield 200, 3) := by decide +kernel
theorem dX8_hashTexts_65 : decode cX8_hashTexts 65 = .ok (.if_icmp .ge 25, 3) := by decide +kernel
theorem dX8_hashTexts_68 : decode cX8_hashTexts 68 = .ok (.lload_n 3, 1) := by decide +kernel
theorem dX8_hashTexts_69 : decode cX8_hashTexts 69 = .ok (.aload_n 0, 1) := by decide +kernel
theorem dX8_hashTexts_70 : decode cX8_hashTexts 70 = .ok (.getfield 29, 3) := by decide +kernel
theorem dX8_hashTexts_73 : decode cX8_hashTexts 73 = .ok (.getfield 246, 3) := by decide +kernel
theorem dX8_hashTexts_76 : decode cX8_hashTexts 76 = .ok (.iload 5, 2) := by decide +kernel
theorem dX8_hashTexts_78 : decode cX8_hashTexts 78 = .ok (.iaload, 1) := by decide +kernel
theorem dX8_hashTexts_79 : decode cX8_hashTexts 79 = .ok (.i2l, 1) := by decide +kernel
theorem dX8_hashTexts_80 : decode cX8_hashTexts 80 = .ok (.invokestatic 402, 3) := by decide +kernel
theorem dX8_hashTexts_83 : decode cX8_hashTexts 83 = .ok (.lstore_n 3, 1) := by decide +kernel
theorem dX8_hashTexts_84 : decode cX8_hashTexts 84 = .ok (.iinc 5 1, 3) := by decide +kernel
theorem dX8_hashTexts_87 : decode cX8_hashTexts 87 = .ok (.goto (-31), 3) := by decide +kernel
theorem dX8_hashTexts_90 : decode cX8_hashTexts 90 = .ok (.lload_n 3, 1) := by decide +kernel
theorem dX8_hashTexts_91 : decode cX8_hashTexts 91 = .ok (.lreturn, 1) := by decide +kernel
theorem dX8_bitsOf_0 : decode cX8_bitsOf 0 = .ok (.dload_n 0, 1) := by decide +kernel
theorem dX8_bitsOf_1 : decode cX8_bitsOf 1 = .ok (.dconst 0, 1) := by decide +kernel
theorem dX8_bitsOf_2 : decode cX8_bitsOf 2 = .ok (.dcmp .l, 1) := by decide +kernel
theorem dX8_bitsOf_3 : decode cX8_bitsOf 3 = .ok (.ifCond .gt 5, 3) := by decide +kernel
theorem dX8_bitsOf_6 : decode cX8_bitsOf 6 = .ok (.lconst 0, 1) := by decide +kernel
theorem dX8_bitsOf_7 : decode cX8_bitsOf 7 = .ok (.lreturn, 1) := by decide +kernel
theorem dX8_bitsOf_8 : decode cX8_bitsOf 8 = .ok (.dload_n 0, 1) := by decide +kernel
theorem dX8_bitsOf_9 : decode cX8_bitsOf 9 = .ok (.dstore_n 2, 1) := by decide +kernel
theorem dX8_bitsOf_10 : decode cX8_bitsOf 10 = .ok (.ldc2_w 570, 3) := by decide +kernel
theorem dX8_bitsOf_13 : decode cX8_bitsOf 13 = .ok (.lstore 4, 2) := by decide +kernel
theorem dX8_bitsOf_15 : decode cX8_bitsOf 15 = .ok (.iconst 0, 1) := by decide +kernel
theorem dX8_bitsOf_16 : decode cX8_bitsOf 16 = .ok (.istore 6, 2) := by decide +kernel
theorem dX8_bitsOf_18 : decode cX8_bitsOf 18 = .ok (.iload 6, 2) := by decide +kernel
theorem dX8_bitsOf_20 : decode cX8_bitsOf 20 = .ok (.sipush 1023, 3) := by decide +kernel
theorem dX8_bitsOf_23 : decode cX8_bitsOf 23 = .ok (.if_icmp .ge 29, 3) := by decide +kernel
theorem dX8_bitsOf_26 : decode cX8_bitsOf 26 = .ok (.dload_n 2, 1) := by decide +kernel
theorem dX8_bitsOf_27 : decode cX8_bitsOf 27 = .ok (.ldc2_w 572, 3) := by decide +kernel
theorem dX8_bitsOf_30 : decode cX8_bitsOf 30 = .ok (.dcmp .l, 1) := by decide +kernel
theorem dX8_bitsOf_31 : decode cX8_bitsOf 31 = .ok (.ifCond .lt 21, 3) := by decide +kernel
theorem dX8_bitsOf_34 : decode cX8_bitsOf 34 = .ok (.dload_n 2, 1) := by decide +kernel
theorem dX8_bitsOf_35 : decode cX8_bitsOf 35 = .ok (.ldc2_w 572, 3) := by decide +kernel
theorem dX8_bitsOf_38 : decode cX8_bitsOf 38 = .ok (.ddiv, 1) := by decide +kernel
theorem dX8_bitsOf_39 : decode cX8_bitsOf 39 = .ok (.dstore_n 2, 1) := by decide +kernel
theorem dX8_bitsOf_40 : decode cX8_bitsOf 40 = .ok (.lload 4, 2) := by decide +kernel
theorem dX8_bitsOf_42 : decode cX8_bitsOf 42 = .ok (.lconst 1, 1) := by decide +kernel
theorem dX8_bitsOf_43 : decode cX8_bitsOf 43 = .ok (.ladd, 1) := by decide +kernel
theorem dX8_bitsOf_44 : decode cX8_bitsOf 44 = .ok (.lstore 4, 2) := by decide +kernel
theorem dX8_bitsOf_46 : decode cX8_bitsOf 46 = .ok (.iinc 6 1, 3) := by decide +kernel
theorem dX8_bitsOf_49 : decode cX8_bitsOf 49 = .ok (.goto (-31), 3) := by decide +kernel
theorem dX8_bitsOf_52 : decode cX8_bitsOf 52 = .ok (.iconst 0, 1) := by decide +kernel
theorem dX8_bitsOf_53 : decode cX8_bitsOf 53 = .ok (.istore 6, 2) := by decide +kernel
theorem dX8_bitsOf_55 : decode cX8_bitsOf 55 = .ok (.iload 6, 2) := by decide +kernel
theorem dX8_bitsOf_57 : decode cX8_bitsOf 57 = .ok (.sipush 1022, 3) := by decide +kernel
theorem dX8_bitsOf_60 : decode cX8_bitsOf 60 = .ok (.if_icmp .ge 27, 3) := by decide +kernel
theorem dX8_bitsOf_63 : decode cX8_bitsOf 63 = .ok (.dload_n 2, 1) := by decide +kernel
theorem dX8_bitsOf_64 : decode cX8_bitsOf 64 = .ok (.dconst 1, 1) := by decide +kernel
theorem dX8_bitsOf_65 : decode cX8_bitsOf 65 = .ok (.dcmp .g, 1) := by decide +kernel
theorem dX8_bitsOf_66 : decode cX8_bitsOf 66 = .ok (.ifCond .ge 21, 3) := by decide +kernel
theorem dX8_bitsOf_69 : decode cX8_bitsOf 69 = .ok (.dload_n 2, 1) := by decide +kernel
theorem dX8_bitsOf_70 : decode cX8_bitsOf 70 = .ok (.ldc2_w 572, 3) := by decide +kernel
theorem dX8_bitsOf_73 : decode cX8_bitsOf 73 = .ok (.dmul, 1) := by decide +kernel
theorem dX8_bitsOf_74 : decode cX8_bitsOf 74 = .ok (.dstore_n 2, 1) := by decide +kernel
theorem dX8_bitsOf_75 : decode cX8_bitsOf 75 = .ok (.lload 4, 2) := by decide +kernel
theorem dX8_bitsOf_77 : decode cX8_bitsOf 77 = .ok (.lconst 1, 1) := by decide +kernel
theorem dX8_bitsOf_78 : decode cX8_bitsOf 78 = .ok (.lsub, 1) := by decide +kernel
theorem dX8_bitsOf_79 : decode cX8_bitsOf 79 = .ok (.lstore 4, 2) := by decide +kernel
theorem dX8_bitsOf_81 : decode cX8_bitsOf 81 = .ok (.iinc 6 1, 3) := by decide +kernel
theorem dX8_bitsOf_84 : decode cX8_bitsOf 84 = .ok (.goto (-29), 3) := by decide +kernel
theorem dX8_bitsOf_87 : decode cX8_bitsOf 87 = .ok (.lload 4, 2) := by decide +kernel
theorem dX8_bitsOf_89 : decode cX8_bitsOf 89 = .ok (.bipush 52, 2) := by decide +kernel
theorem dX8_bitsOf_91 : decode cX8_bitsOf 91 = .ok (.lshl, 1) := by decide +kernel
theorem dX8_bitsOf_92 : decode cX8_bitsOf 92 = .ok (.dload_n 2, 1) := by decide +kernel
theorem dX8_bitsOf_93 : decode cX8_bitsOf 93 = .ok (.dconst 1, 1) := by decide +kernel
theorem dX8_bitsOf_94 : decode cX8_bitsOf 94 = .ok (.dsub, 1) := by decide +kernel
theorem dX8_bitsOf_95 : decode cX8_bitsOf 95 = .ok (.ldc2_w 574, 3) := by decide +kernel
theorem dX8_bitsOf_98 : decode cX8_bitsOf 98 = .ok (.dmul, 1) := by decide +kernel
theorem dX8_bitsOf_99 : decode cX8_bitsOf 99 = .ok (.d2l, 1) := by decide +kernel
theorem dX8_bitsOf_100 : decode cX8_bitsOf 100 = .ok (.ladd, 1) := by decide +kernel
theorem dX8_bitsOf_101 : decode cX8_bitsOf 101 = .ok (.lreturn, 1) := by decide +kernel
theorem dX9_init_0 : decode cX9_init 0 = .ok (.aload_n 0, 1) := by decide +kernel
theorem dX9_init_1 : decode cX9_init 1 = .ok (.invokespecial 1, 3) := by decide +kernel
theorem dX9_init_4 : decode cX9_init 4 = .ok (.aload_n 0, 1) := by decide +kernel
theorem dX9_init_5 : decode cX9_init 5 = .ok (.sipush 304, 3) := by decide +kernel
theorem dX9_init_8 : decode cX9_init 8 = .ok (.newarray .int, 2) := by decide +kernel
theorem dX9_init_10 : decode cX9_init 10 = .ok (.putfield 7, 3) := by decide +kernel
theorem dX9_init_13 : decode cX9_init 13 = .ok (.aload_n 0, 1) := by decide +kernel
theorem dX9_init_14 : decode cX9_init 14 = .ok (.sipush 304, 3) := by decide +kernel
theorem dX9_init_17 : decode cX9_init 17 = .ok (.newarray .int, 2) := by decide +kernel
theorem dX9_init_19 : decode cX9_init 19 = .ok (.putfield 13, 3) := by decide +kernel
theorem dX9_init_22 : decode cX9_init 22 = .ok (.aload_n 0, 1) := by decide +kernel
theorem dX9_init_23 : decode cX9_init 23 = .ok (.sipush 1824, 3) := by decide +kernel
theorem dX9_init_26 : decode cX9_init 26 = .ok (.newarray .int, 2) := by decide +kernel
theorem dX9_init_28 : decode cX9_init 28 = .ok (.putfield 16, 3) := by decide +kernel
theorem dX9_init_31 : decode cX9_init 31 = .ok (.aload_n 0, 1) := by decide +kernel
theorem dX9_init_32 : decode cX9_init 32 = .ok (.sipush 608, 3) := by decide +kernel
theorem dX9_init_35 : decode cX9_init 35 = .ok (.newarray .int, 2) := by decide +kernel
theorem dX9_init_37 : decode cX9_init 37 = .ok (.putfield 19, 3) := by decide +kernel
theorem dX9_init_40 : decode cX9_init 40 = .ok (.aload_n 0, 1) := by decide +kernel
theorem dX9_init_41 : decode cX9_init 41 = .ok (.iconst 2, 1) := by decide +kernel
theorem dX9_init_42 : decode cX9_init 42 = .ok (.newarray .boolean, 2) := by decide +kernel
theorem dX9_init_44 : decode cX9_init 44 = .ok (.putfield 22, 3) := by decide +kernel
theorem dX9_init_47 : decode cX9_init 47 = .ok (.aload_n 0, 1) := by decide +kernel
theorem dX9_init_48 : decode cX9_init 48 = .ok (.bipush 60, 2) := by decide +kernel
theorem dX9_init_50 : decode cX9_init 50 = .ok (.newarray .int, 2) := by decide +kernel
theorem dX9_init_52 : decode cX9_init 52 = .ok (.putfield 26, 3) := by decide +kernel
theorem dX9_init_55 : decode cX9_init 55 = .ok (.aload_n 0, 1) := by decide +kernel
theorem dX9_init_56 : decode cX9_init 56 = .ok (.bipush 10, 2) := by decide +kernel
theorem dX9_init_58 : decode cX9_init 58 = .ok (.newarray .int, 2) := by decide +kernel
theorem dX9_init_60 : decode cX9_init 60 = .ok (.putfield 29, 3) := by decide +kernel
theorem dX9_init_63 : decode cX9_init 63 = .ok (.aload_n 0, 1) := by decide +kernel
theorem dX9_init_64 : decode cX9_init 64 = .ok (.bipush 10, 2) := by decide +kernel
theorem dX9_init_66 : decode cX9_init 66 = .ok (.newarray .int, 2) := by decide +kernel
theorem dX9_init_68 : decode cX9_init 68 = .ok (.putfield 32, 3) := by decide +kernel
theorem dX9_init_71 : decode cX9_init 71 = .ok (.aload_n 0, 1) := by decide +kernel
theorem dX9_init_72 : decode cX9_init 72 = .ok (.iconst 0, 1) := by decide +kernel
theorem dX9_init_73 : decode cX9_init 73 = .ok (.putfield 35, 3) := by decide +kernel
theorem dX9_init_76 : decode cX9_init 76 = .ok (.aload_n 0, 1) := by decide +kernel
theorem dX9_init_77 : decode cX9_init 77 = .ok (.getfield 7, 3) := by decide +kernel
theorem dX9_init_80 : decode cX9_init 80 = .ok (.iconst 1, 1) := by decide +kernel
theorem dX9_init_81 : decode cX9_init 81 = .ok (.iconst (-1), 1) := by decide +kernel
theorem dX9_init_82 : decode cX9_init 82 = .ok (.iastore, 1) := by decide +kernel
theorem dX9_init_83 : decode cX9_init 83 = .ok (.aload_n 0, 1) := by decide +kernel
theorem dX9_init_84 : decode cX9_init 84 = .ok (.getfield 7, 3) := by decide +kernel
theorem dX9_init_87 : decode cX9_init 87 = .ok (.iconst 3, 1) := by decide +kernel
theorem dX9_init_88 : decode cX9_init 88 = .ok (.iconst 1, 1) := by decide +kernel
theorem dX9_init_89 : decode cX9_init 89 = .ok (.iastore, 1) := by decide +kernel
theorem dX9_init_90 : decode cX9_init 90 = .ok (.iconst 0, 1) := by decide +kernel
theorem dX9_init_91 : decode cX9_init 91 = .ok (.istore_n 1, 1) := by decide +kernel
theorem dX9_init_92 : decode cX9_init 92 = .ok (.iload_n 1, 1) := by decide +kernel
theorem dX9_init_93 : decode cX9_init 93 = .ok (.bipush 10, 2) := by decide +kernel
theorem dX9_init_95 : decode cX9_init 95 = .ok (.if_icmp .ge 20, 3) := by decide +kernel
theorem dX9_init_98 : decode cX9_init 98 = .ok (.aload_n 0, 1) := by decide +kernel
theorem dX9_init_99 : decode cX9_init 99 = .ok (.getfield 7, 3) := by decide +kernel
theorem dX9_init_102 : decode cX9_init 102 = .ok (.sipush 177, 3) := by decide +kernel
theorem dX9_init_105 : decode cX9_init 105 = .ok (.iload_n 1, 1) := by decide +kernel
theorem dX9_init_106 : decode cX9_init 106 = .ok (.iadd, 1) := by decide +kernel
theorem dX9_init_107 : decode cX9_init 107 = .ok (.iconst 1, 1) := by decide +kernel
theorem dX9_init_108 : decode cX9_init 108 = .ok (.iastore, 1) := by decide +kernel
theorem dX9_init_109 : decode cX9_init 109 = .ok (.iinc 1 1, 3) := by decide +kernel
theorem dX9_init_112 : decode cX9_init 112 = .ok (.goto (-20), 3) := by decide +kernel
theorem dX9_init_115 : decode cX9_init 115 = .ok (.return_, 1) := by decide +kernel
theorem dX9_thrown_0 : decode cX9_thrown 0 = .ok (.aload_n 0, 1) := by decide +kernel
theorem dX9_thrown_1 : decode cX9_thrown 1 = .ok (.getfield 35, 3) := by decide +kernel
theorem dX9_thrown_4 : decode cX9_thrown 4 = .ok (.ireturn, 1) := by decide +kernel
theorem dX9_fails_0 : decode cX9_fails 0 = .ok (.aload_n 0, 1) := by decide +kernel
theorem dX9_fails_1 : decode cX9_fails 1 = .ok (.iload_n 1, 1) := by decide +kernel
theorem dX9_fails_2 : decode cX9_fails 2 = .ok (.putfield 35, 3) := by decide +kernel
theorem dX9_fails_5 : decode cX9_fails 5 = .ok (.iconst 0, 1) := by decide +kernel
theorem dX9_fails_6 : decode cX9_fails 6 = .ok (.ireturn, 1) := by decide +kernel
theorem dX9_in_0 : decode cX9_in 0 = .ok (.iload_n 0, 1) := by decide +kernel
theorem dX9_in_1 : decode cX9_in 1 = .ok (.iload_n 1, 1) := by decide +kernel
theorem dX9_in_2 : decode cX9_in 2 = .ok (.if_icmp .lt 12, 3) := by decide +kernel
theorem dX9_in_5 : decode cX9_in 5 = .ok (.iload_n 0, 1) := by decide +kernel
theorem dX9_in_6 : decode cX9_in 6 = .ok (.iload_n 2, 1) := by decide +kernel
theorem dX9_in_7 : decode cX9_in 7 = .ok (.if_icmp .gt 7, 3) := by decide +kernel
theorem dX9_in_10 : decode cX9_in 10 = .ok (.iconst 1, 1) := by decide +kernel
theorem dX9_in_11 : decode cX9_in 11 = .ok (.goto 4, 3) := by decide +kernel
theorem dX9_in_14 : decode cX9_in 14 = .ok (.iconst 0, 1) := by decide +kernel
theorem dX9_in_15 : decode cX9_in 15 = .ok (.ireturn, 1) := by decide +kernel
set_option maxRecDepth 20000 in
theorem ggX9_isShelf_X9_in : GoodIn wsX9_isShelf wsX9_in := goodIn_r _ [5] (by decide +kernel) (by decide +kernel)
set_option maxRecDepth 20000 in
theorem gX9_isShelf_X9_in : GoodIn wsX9_isShelf (va_wsS RX9 39 yX9_in wsX9_in) := goodIn_app (goodIn_of _ (by decide +kernel)) ggX9_isShelf_X9_in
theorem dX9_isShelf_0 : decode cX9_isShelf 0 = .ok (.iload_n 1, 1) := by decide +kernel
theorem dX9_isShelf_1 : decode cX9_isShelf 1 = .ok (.iconst 0, 1) := by decide +kernel
theorem dX9_isShelf_2 : decode cX9_isShelf 2 = .ok (.aload_n 0, 1) := by decide +kernel
theorem dX9_isShelf_3 : decode cX9_isShelf 3 = .ok (.getfield 7, 3) := by decide +kernel
theorem dX9_isShelf_6 : decode cX9_isShelf 6 = .ok (.iconst 0, 1) := by decide +kernel
theorem dX9_isShelf_7 : decode cX9_isShelf 7 = .ok (.iaload, 1) := by decide +kernel
theorem dX9_isShelf_8 : decode cX9_isShelf 8 = .ok (.iconst 1, 1) := by decide +kernel
theorem dX9_isShelf_9 : decode cX9_isShelf 9 = .ok (.isub, 1) := by decide +kernel
theorem dX9_isShelf_10 : decode cX9_isShelf 10 = .ok (.invokestatic 39, 3) := by decide +kernel
theorem dX9_isShelf_13 : decode cX9_isShelf 13 = .ok (.ireturn, 1) := by decide +kernel
set_option maxRecDepth 20000 in
theorem ggX9_isKind_X9_in : GoodIn wsX9_isKind wsX9_in := goodIn_r _ [4] (by decide +kernel) (by decide +kernel)
set_option maxRecDepth 20000 in
theorem gX9_isKind_X9_in : GoodIn wsX9_isKind (va_wsS RX9 39 yX9_in wsX9_in) := goodIn_app (goodIn_of _ (by decide +kernel)) ggX9_isKind_X9_in
theorem dX9_isKind_0 : decode cX9_isKind 0 = .ok (.iload_n 0, 1) := by decide +kernel
theorem dX9_isKind_1 : decode cX9_isKind 1 = .ok (.iconst 0, 1) := by decide +kernel
theorem dX9_isKind_2 : decode cX9_isKind 2 = .ok (.bipush 9, 2) := by decide +kernel
theorem dX9_isKind_4 : decode cX9_isKind 4 = .ok (.invokestatic 39, 3) := by decide +kernel
theorem dX9_isKind_7 : decode cX9_isKind 7 = .ok (.ireturn, 1) := by decide +kernel
set_option maxRecDepth 20000 in
theorem ggX9_isOrder_X9_in : GoodIn wsX9_isOrder wsX9_in := goodIn_r _ [5] (by decide +kernel) (by decide +kernel)
set_option maxRecDepth 20000 in
theorem gX9_isOrder_X9_in : GoodIn wsX9_isOrder (va_wsS RX9 39 yX9_in wsX9_in) := goodIn_app (goodIn_of _ (by decide +kernel)) ggX9_isOrder_X9_in
theorem dX9_isOrder_0 : decode cX9_isOrder 0 = .ok (.iload_n 1, 1) := by decide +kernel
theorem dX9_isOrder_1 : decode cX9_isOrder 1 = .ok (.iconst 0, 1) := by decide +kernel
theorem dX9_isOrder_2 : decode cX9_isOrder 2 = .ok (.aload_n 0, 1) := by decide +kernel
theorem dX9_isOrder_3 : decode cX9_isOrder 3 = .ok (.getfield 7, 3) := by decide +kernel
theorem dX9_isOrder_6 : decode cX9_isOrder 6 = .ok (.bipush 8, 2) := by decide +kernel
theorem dX9_isOrder_8 : decode cX9_isOrder 8 = .ok (.iaload, 1) := by decide +kernel
theorem dX9_isOrder_9 : decode cX9_isOrder 9 = .ok (.iconst 1, 1) := by decide +kernel
theorem dX9_isOrder_10 : decode cX9_isOrder 10 = .ok (.isub, 1) := by decide +kernel
theorem dX9_isOrder_11 : decode cX9_isOrder 11 = .ok (.invokestatic 39, 3) := by decide +kernel
theorem dX9_isOrder_14 : decode cX9_isOrder 14 = .ok (.ireturn, 1) := by decide +kernel
set_option maxRecDepth 20000 in
theorem ggX9_isSpot_X9_in : GoodIn wsX9_isSpot wsX9_in := goodIn_r _ [4] (by decide +kernel) (by decide +kernel)
set_option maxRecDepth 20000 in
theorem gX9_isSpot_X9_in : GoodIn wsX9_isSpot (va_wsS RX9 39 yX9_in wsX9_in) := goodIn_app (goodIn_of _ (by decide +kernel)) ggX9_isSpot_X9_in
theorem dX9_isSpot_0 : decode cX9_isSpot 0 = .ok (.iload_n 0, 1) := by decide +kernel
theorem dX9_isSpot_1 : decode cX9_isSpot 1 = .ok (.iconst 0, 1) := by decide +kernel
theorem dX9_isSpot_2 : decode cX9_isSpot 2 = .ok (.iconst 1, 1) := by decide +kernel
theorem dX9_isSpot_3 : decode cX9_isSpot 3 = .ok (.invokestatic 39, 3) := by decide +kernel
theorem dX9_isSpot_6 : decode cX9_isSpot 6 = .ok (.ifCond .eq 17, 3) := by decide +kernel
theorem dX9_isSpot_9 : decode cX9_isSpot 9 = .ok (.iload_n 1, 1) := by decide +kernel
theorem dX9_isSpot_10 : decode cX9_isSpot 10 = .ok (.iconst 0, 1) := by decide +kernel
theorem dX9_isSpot_11 : decode cX9_isSpot 11 = .ok (.bipush 19, 2) := by decide +kernel
theorem dX9_isSpot_13 : decode cX9_isSpot 13 = .ok (.invokestatic 39, 3) := by decide +kernel
theorem dX9_isSpot_16 : decode cX9_isSpot 16 = .ok (.ifCond .eq 7, 3) := by decide +kernel
theorem dX9_isSpot_19 : decode cX9_isSpot 19 = .ok (.iconst 1, 1) := by decide +kernel
theorem dX9_isSpot_20 : decode cX9_isSpot 20 = .ok (.goto 4, 3) := by decide +kernel
theorem dX9_isSpot_23 : decode cX9_isSpot 23 = .ok (.iconst 0, 1) := by decide +kernel
theorem dX9_isSpot_24 : decode cX9_isSpot 24 = .ok (.ireturn, 1) := by decide +kernel
theorem dX9_of_0 : decode cX9_of 0 = .ok (.aload_n 0, 1) := by decide +kernel
theorem dX9_of_1 : decode cX9_of 1 = .ok (.getfield 7, 3) := by decide +kernel
theorem dX9_of_4 : decode cX9_of 4 = .ok (.bipush 9, 2) := by decide +kernel
theorem dX9_of_6 : decode cX9_of 6 = .ok (.bipush 14, 2) := by decide +kernel
theorem dX9_of_8 : decode cX9_of 8 = .ok (.iload_n 1, 1) := by decide +kernel
theorem dX9_of_9 : decode cX9_of 9 = .ok (.imul, 1) := by decide +kernel
theorem dX9_of_10 : decode cX9_of 10 = .ok (.iadd, 1) := by decide +kernel
theorem dX9_of_11 : decode cX9_of 11 = .ok (.iload_n 2, 1) := by decide +kernel
theorem dX9_of_12 : decode cX9_of 12 = .ok (.iadd, 1) := by decide +kernel
theorem dX9_of_13 : decode cX9_of 13 = .ok (.iaload, 1) := by decide +kernel
theorem dX9_of_14 : decode cX9_of 14 = .ok (.ireturn, 1) := by decide +kernel
theorem dX9_lay_0 : decode cX9_lay 0 = .ok (.aload_n 0, 1) := by decide +kernel
theorem dX9_lay_1 : decode cX9_lay 1 = .ok (.getfield 7, 3) := by decide +kernel
theorem dX9_lay_4 : decode cX9_lay 4 = .ok (.bipush 9, 2) := by decide +kernel
theorem dX9_lay_6 : decode cX9_lay 6 = .ok (.bipush 14, 2) := by decide +kernel
theorem dX9_lay_8 : decode cX9_lay 8 = .ok (.iload_n 1, 1) := by decide +kernel
theorem dX9_lay_9 : decode cX9_lay 9 = .ok (.imul, 1) := by decide +kernel
theorem dX9_lay_10 : decode cX9_lay 10 = .ok (.iadd, 1) := by decide +kernel
theorem dX9_lay_11 : decode cX9_lay 11 = .ok (.iload_n 2, 1) := by decide +kernel
theorem dX9_lay_12 : decode cX9_lay 12 = .ok (.iadd, 1) := by decide +kernel
theorem dX9_lay_13 : decode cX9_lay 13 = .ok (.iload_n 3, 1) := by decide +kernel
theorem dX9_lay_14 : decode cX9_lay 14 = .ok (.iastore, 1) := by decide +kernel
theorem dX9_lay_15 : decode cX9_lay 15 = .ok (.return_, 1) := by decide +kernel
theorem dX9_hasWindow_0 : decode cX9_hasWindow 0 = .ok (.aload_n 0, 1) := by decide +kernel
theorem dX9_hasWindow_1 : decode cX9_hasWindow 1 = .ok (.getfield 7, 3) := by decide +kernel
theorem dX9_hasWindow_4 : decode cX9_hasWindow 4 = .ok (.iconst 1, 1) := by decide +kernel
theorem dX9_hasWindow_5 : decode cX9_hasWindow 5 = .ok (.iaload, 1) := by decide +kernel
theorem dX9_hasWindow_6 : decode cX9_hasWindow 6 = .ok (.iconst (-1), 1) := by decide +kernel
theorem dX9_hasWindow_7 : decode cX9_hasWindow 7 = .ok (.if_icmp .eq 7, 3) := by decide +kernel
theorem dX9_hasWindow_10 : decode cX9_hasWindow 10 = .ok (.iconst 1, 1) := by decide +kernel
theorem dX9_hasWindow_11 : decode cX9_hasWindow 11 = .ok (.goto 4, 3) := by decide +kernel
theorem dX9_hasWindow_14 : decode cX9_hasWindow 14 = .ok (.iconst 0, 1) := by decide +kernel
theorem dX9_hasWindow_15 : decode cX9_hasWindow 15 = .ok (.ireturn, 1) := by decide +kernel
theorem dX9_records_0 : decode cX9_records 0 = .ok (.aload_n 0, 1) := by decide +kernel
theorem dX9_records_1 : decode cX9_records 1 = .ok (.getfield 43, 3) := by decide +kernel
theorem dX9_records_4 : decode cX9_records 4 = .ok (.bipush 6, 2) := by decide +kernel
theorem dX9_records_6 : decode cX9_records 6 = .ok (.if_icmp .ne 44, 3) := by decide +kernel
theorem dX9_records_9 : decode cX9_records 9 = .ok (.iconst 0, 1) := by decide +kernel
theorem dX9_records_10 : decode cX9_records 10 = .ok (.istore_n 1, 1) := by decide +kernel
theorem dX9_records_11 : decode cX9_records 11 = .ok (.iload_n 1, 1) := by decide +kernel
theorem dX9_records_12 : decode cX9_records 12 = .ok (.sipush 1520, 3) := by decide +kernel
theorem dX9_records_15 : decode cX9_records 15 = .ok (.if_icmp .ge 25, 3) := by decide +kernel
theorem dX9_records_18 : decode cX9_records 18 = .ok (.aload_n 0, 1) := by decide +kernel
theorem dX9_records_19 : decode cX9_records 19 = .ok (.getfield 16, 3) := by decide +kernel
theorem dX9_records_22 : decode cX9_records 22 = .ok (.iload_n 1, 1) := by decide +kernel
theorem dX9_records_23 : decode cX9_records 23 = .ok (.aload_n 0, 1) := by decide +kernel
theorem dX9_records_24 : decode cX9_records 24 = .ok (.getfield 16, 3) := by decide +kernel
theorem dX9_records_27 : decode cX9_records 27 = .ok (.iload_n 1, 1) := by decide +kernel
theorem dX9_records_28 : decode cX9_records 28 = .ok (.sipush 304, 3) := by decide +kernel
theorem dX9_records_31 : decode cX9_records 31 = .ok (.iadd, 1) := by decide +kernel
theorem dX9_records_32 : decode cX9_records 32 = .ok (.iaload, 1) := by decide +kernel
theorem dX9_records_33 : decode cX9_records 33 = .ok (.iastore, 1) := by decide +kernel
theorem dX9_records_34 : decode cX9_records 34 = .ok (.iinc 1 1, 3) := by decide +kernel
theorem dX9_records_37 : decode cX9_records 37 = .ok (.goto (-26), 3) := by decide +kernel
theorem dX9_records_40 : decode cX9_records 40 = .ok (.aload_n 0, 1) := by decide +kernel
theorem dX9_records_41 : decode cX9_records 41 = .ok (.dup, 1) := by decide +kernel
theorem dX9_records_42 : decode cX9_records 42 = .ok (.getfield 43, 3) := by decide +kernel
theorem dX9_records_45 : decode cX9_records 45 = .ok (.iconst 1, 1) := by decide +kernel
theorem dX9_records_46 : decode cX9_records 46 = .ok (.isub, 1) := by decide +kernel
theorem dX9_records_47 : decode cX9_records 47 = .ok (.putfield 43, 3) := by decide +kernel
theorem dX9_records_50 : decode cX9_records 50 = .ok (.iconst 0, 1) := by decide +kernel
theorem dX9_records_51 : decode cX9_records 51 = .ok (.istore_n 1, 1) := by decide +kernel
theorem dX9_records_52 : decode cX9_records 52 = .ok (.iload_n 1, 1) := by decide +kernel
theorem dX9_records_53 : decode cX9_records 53 = .ok (.sipush 304, 3) := by decide +kernel
theorem dX9_records_56 : decode cX9_records 56 = .ok (.if_icmp .ge 30, 3) := by decide +kernel
theorem dX9_records_59 : decode cX9_records 59 = .ok (.aload_n 0, 1) := by decide +kernel
theorem dX9_records_60 : decode cX9_records 60 = .ok (.getfield 16, 3) := by decide +kernel
theorem dX9_records_63 : decode cX9_records 63 = .ok (.sipush 304, 3) := by decide +kernel
theorem dX9_records_66 : decode cX9_records 66 = .ok (.aload_n 0, 1) := by decide +kernel
theorem dX9_records_67 : decode cX9_records 67 = .ok (.getfield 43, 3) := by decide +kernel
theorem dX9_records_70 : decode cX9_records 70 = .ok (.imul, 1) := by decide +kernel
theorem dX9_records_71 : decode cX9_records 71 = .ok (.iload_n 1, 1) := by decide +kernel
theorem dX9_records_72 : decode cX9_records 72 = .ok (.iadd, 1) := by decide +kernel
theorem dX9_records_73 : decode cX9_records 73 = .ok (.aload_n 0, 1) := by decide +kernel
theorem dX9_records_74 : decode cX9_records 74 = .ok (.getfield 7, 3) := by decide +kernel
theorem dX9_records_77 : decode cX9_records 77 = .ok (.iload_n 1, 1) := by decide +kernel
theorem dX9_records_78 : decode cX9_records 78 = .ok (.iaload, 1) := by decide +kernel
theorem dX9_records_79 : decode cX9_records 79 = .ok (.iastore, 1) := by decide +kernel
theorem dX9_records_80 : decode cX9_records 80 = .ok (.iinc 1 1, 3) := by decide +kernel
theorem dX9_records_83 : decode cX9_records 83 = .ok (.goto (-31), 3) := by decide +kernel
theorem dX9_records_86 : decode cX9_records 86 = .ok (.aload_n 0, 1) := by decide +kernel
theorem dX9_records_87 : decode cX9_records 87 = .ok (.dup, 1) := by decide +kernel
theorem dX9_records_88 : decode cX9_records 88 = .ok (.getfield 43, 3) := by decide +kernel
theorem dX9_records_91 : decode cX9_records 91 = .ok (.iconst 1, 1) := by decide +kernel
theorem dX9_records_92 : decode cX9_records 92 = .ok (.iadd, 1) := by decide +kernel
theorem dX9_records_93 : decode cX9_records 93 = .ok (.putfield 43, 3) := by decide +kernel
theorem dX9_records_96 : decode cX9_records 96 = .ok (.return_, 1) := by decide +kernel
theorem dX9_putAside_0 : decode cX9_putAside 0 = .ok (.iconst 0, 1) := by decide +kernel
theorem dX9_putAside_1 : decode cX9_putAside 1 = .ok (.istore_n 1, 1) := by decide +kernel
theorem dX9_putAside_2 : decode cX9_putAside 2 = .ok (.iload_n 1, 1) := by decide +kernel
theorem dX9_putAside_3 : decode cX9_putAside 3 = .ok (.sipush 304, 3) := by decide +kernel
theorem dX9_putAside_6 : decode cX9_putAside 6 = .ok (.if_icmp .ge 21, 3) := by decide +kernel
theorem dX9_putAside_9 : decode cX9_putAside 9 = .ok (.aload_n 0, 1) := by decide +kernel
theorem dX9_putAside_10 : decode cX9_putAside 10 = .ok (.getfield 13, 3) := by decide +kernel
theorem dX9_putAside_13 : decode cX9_putAside 13 = .ok (.iload_n 1, 1) := by decide +kernel
theorem dX9_putAside_14 : decode cX9_putAside 14 = .ok (.aload_n 0, 1) := by decide +kernel
theorem dX9_putAside_15 : decode cX9_putAside 15 = .ok (.getfield 7, 3) := by decide +kernel
theorem dX9_putAside_18 : decode cX9_putAside 18 = .ok (.iload_n 1, 1) := by decide +kernel
theorem dX9_putAside_19 : decode cX9_putAside 19 = .ok (.iaload, 1) := by decide +kernel
theorem dX9_putAside_20 : decode cX9_putAside 20 = .ok (.iastore, 1) := by decide +kernel
theorem dX9_putAside_21 : decode cX9_putAside 21 = .ok (.iinc 1 1, 3) := by decide +kernel
theorem dX9_putAside_24 : decode cX9_putAside 24 = .ok (.goto (-22), 3) := by decide +kernel
theorem dX9_putAside_27 : decode cX9_putAside 27 = .ok (.return_, 1) := by decide +kernel
theorem dX9_takeBack_0 : decode cX9_takeBack 0 = .ok (.iconst 0, 1) := by decide +kernel
theorem dX9_takeBack_1 : decode cX9_takeBack 1 = .ok (.istore_n 1, 1) := by decide +kernel
theorem dX9_takeBack_2 : decode cX9_takeBack 2 = .ok (.iload_n 1, 1) := by decide +kernel
theorem dX9_takeBack_3 : decode cX9_takeBack 3 = .ok (.sipush 304, 3) := by decide +kernel
theorem dX9_takeBack_6 : decode cX9_takeBack 6 = .ok (.if_icmp .ge 21, 3) := by decide +kernel
theorem dX9_takeBack_9 : decode cX9_takeBack 9 = .ok (.aload_n 0, 1) := by decide +kernel
theorem dX9_takeBack_10 : decode cX9_takeBack 10 = .ok (.getfield 7, 3) := by decide +kernel
theorem dX9_takeBack_13 : decode cX9_takeBack 13 = .ok (.iload_n 1, 1) := by decide +kernel
theorem dX9_takeBack_14 : decode cX9_takeBack 14 = .ok (.aload_n 0, 1) := by decide +kernel
theorem dX9_takeBack_15 : decode cX9_takeBack 15 = .ok (.getfield 13, 3) := by decide +kernel
theorem dX9_takeBack_18 : decode cX9_takeBack 18 = .ok (.iload_n 1, 1) := by decide +kernel
theorem dX9_takeBack_19 : decode cX9_takeBack 19 = .ok (.iaload, 1) := by decide +kernel
theorem dX9_takeBack_20 : decode cX9_takeBack 20 = .ok (.iastore, 1) := by decide +kernel
theorem dX9_takeBack_21 : decode cX9_takeBack 21 = .ok (.iinc 1 1, 3) := by decide +kernel
theorem dX9_takeBack_24 : decode cX9_takeBack 24 = .ok (.goto (-22), 3) := by decide +kernel
theorem dX9_takeBack_27 : decode cX9_takeBack 27 = .ok (.return_, 1) := by decide +kernel
set_option maxRecDepth 20000 in
theorem ggX9_on_X9_of : GoodIn wsX9_on wsX9_of := goodIn_r _ [6, 1, 10, 11, 12, 13, 14, 15, 16, 17, 18, 19, 20, 21, 22] (by decide +kernel) (by decide +kernel)
set_option maxRecDepth 20000 in
theorem gX9_on_X9_of : GoodIn wsX9_on (wsV RX9 46 RX9 yX9_of wsX9_of) := goodIn_app (goodIn_of _ (by decide +kernel)) ggX9_on_X9_of
set_option maxRecDepth 20000 in
theorem ggX9_on_X9_in : GoodIn wsX9_on wsX9_in := goodIn_r _ [9] (by decide +kernel) (by decide +kernel)
set_option maxRecDepth 20000 in
theorem gX9_on_X9_in : GoodIn wsX9_on (va_wsS RX9 39 yX9_in wsX9_in) := goodIn_app (goodIn_of _ (by decide +kernel)) ggX9_on_X9_in
theorem dX9_on_0 : decode cX9_on 0 = .ok (.iconst (-1), 1) := by decide +kernel
theorem dX9_on_1 : decode cX9_on 1 = .ok (.istore_n 3, 1) := by decide +kernel
theorem dX9_on_2 : decode cX9_on 2 = .ok (.iconst 0, 1) := by decide +kernel
theorem dX9_on_3 : decode cX9_on 3 = .ok (.istore 4, 2) := by decide +kernel
theorem dX9_on_5 : decode cX9_on 5 = .ok (.iload 4, 2) := by decide +kernel
theorem dX9_on_7 : decode cX9_on 7 = .ok (.aload_n 0, 1) := by decide +kernel
theorem dX9_on_8 : decode cX9_on 8 = .ok (.getfield 7, 3) := by decide +kernel
theorem dX9_on_11 : decode cX9_on 11 = .ok (.iconst 0, 1) := by decide +kernel
theorem dX9_on_12 : decode cX9_on 12 = .ok (.iaload, 1) := by decide +kernel
theorem dX9_on_13 : decode cX9_on 13 = .ok (.if_icmp .ge 75, 3) := by decide +kernel
theorem dX9_on_16 : decode cX9_on 16 = .ok (.iload 4, 2) := by decide +kernel
theorem dX9_on_18 : decode cX9_on 18 = .ok (.aload_n 0, 1) := by decide +kernel
theorem dX9_on_19 : decode cX9_on 19 = .ok (.getfield 7, 3) := by decide +kernel
theorem dX9_on_22 : decode cX9_on 22 = .ok (.iconst 1, 1) := by decide +kernel
theorem dX9_on_23 : decode cX9_on 23 = .ok (.iaload, 1) := by decide +kernel
theorem dX9_on_24 : decode cX9_on 24 = .ok (.if_icmp .eq 43, 3) := by decide +kernel
theorem dX9_on_27 : decode cX9_on 27 = .ok (.aload_n 0, 1) := by decide +kernel
theorem dX9_on_28 : decode cX9_on 28 = .ok (.iload 4, 2) := by decide +kernel
theorem dX9_on_30 : decode cX9_on 30 = .ok (.iconst 1, 1) := by decide +kernel
theorem dX9_on_31 : decode cX9_on 31 = .ok (.invokevirtual 46, 3) := by decide +kernel
theorem dX9_on_34 : decode cX9_on 34 = .ok (.iload_n 1, 1) := by decide +kernel
theorem dX9_on_35 : decode cX9_on 35 = .ok (.if_icmp .ne 32, 3) := by decide +kernel
theorem dX9_on_38 : decode cX9_on 38 = .ok (.iload_n 2, 1) := by decide +kernel
theorem dX9_on_39 : decode cX9_on 39 = .ok (.aload_n 0, 1) := by decide +kernel
theorem dX9_on_40 : decode cX9_on 40 = .ok (.iload 4, 2) := by decide +kernel
theorem dX9_on_42 : decode cX9_on 42 = .ok (.iconst 2, 1) := by decide +kernel
theorem dX9_on_43 : decode cX9_on 43 = .ok (.invokevirtual 46, 3) := by decide +kernel
theorem dX9_on_46 : decode cX9_on 46 = .ok (.isub, 1) := by decide +kernel
theorem dX9_on_47 : decode cX9_on 47 = .ok (.iconst 0, 1) := by decide +kernel
theorem dX9_on_48 : decode cX9_on 48 = .ok (.aload_n 0, 1) := by decide +kernel
theorem dX9_on_49 : decode cX9_on 49 = .ok (.iload 4, 2) := by decide +kernel
theorem dX9_on_51 : decode cX9_on 51 = .ok (.iconst 0, 1) := by decide +kernel
theorem dX9_on_52 : decode cX9_on 52 = .ok (.invokevirtual 46, 3) := by decide +kernel
theorem dX9_on_55 : decode cX9_on 55 = .ok (.iconst 1, 1) := by decide +kernel
theorem dX9_on_56 : decode cX9_on 56 = .ok (.isub, 1) := by decide +kernel
theorem dX9_on_57 : decode cX9_on 57 = .ok (.invokestatic 39, 3) := by decide +kernel
theorem dX9_on_60 : decode cX9_on 60 = .ok (.ifCond .eq 7, 3) := by decide +kernel
theorem dX9_on_63 : decode cX9_on 63 = .ok (.iconst 1, 1) := by decide +kernel
theorem dX9_on_64 : decode cX9_on 64 = .ok (.goto 4, 3) := by decide +kernel
theorem dX9_on_67 : decode cX9_on 67 = .ok (.iconst 0, 1) := by decide +kernel
theorem dX9_on_68 : decode cX9_on 68 = .ok (.istore 5, 2) := by decide +kernel
theorem dX9_on_70 : decode cX9_on 70 = .ok (.iload 5, 2) := by decide +kernel
theorem dX9_on_72 : decode cX9_on 72 = .ok (.ifCond .eq 8, 3) := by decide +kernel
theorem dX9_on_75 : decode cX9_on 75 = .ok (.iload 4, 2) := by decide +kernel
theorem dX9_on_77 : decode cX9_on 77 = .ok (.goto 4, 3) := by decide +kernel
theorem dX9_on_80 : decode cX9_on 80 = .ok (.iload_n 3, 1) := by decide +kernel
theorem dX9_on_81 : decode cX9_on 81 = .ok (.istore_n 3, 1) := by decide +kernel
theorem dX9_on_82 : decode cX9_on 82 = .ok (.iinc 4 1, 3) := by decide +kernel
theorem dX9_on_85 : decode cX9_on 85 = .ok (.goto (-80), 3) := by decide +kernel
theorem dX9_on_88 : decode cX9_on 88 = .ok (.iload_n 3, 1) := by decide +kernel
theorem dX9_on_89 : decode cX9_on 89 = .ok (.ireturn, 1) := by decide +kernel
set_option maxRecDepth 20000 in
theorem ggX9_fits_X9_on : GoodIn wsX9_fits wsX9_on := goodIn_r _ [5, 6, 7, 8, 9, 4, 10, 11, 12, 13, 14, 15, 16, 17, 18, 19, 20, 21, 22, 23, 24, 25, 26] (by decide +kernel) (by decide +kernel)
set_option maxRecDepth 20000 in
theorem gX9_fits_X9_on : GoodIn wsX9_fits (wsV RX9 50 RX9 yX9_on wsX9_on) := goodIn_app (goodIn_of _ (by decide +kernel)) ggX9_fits_X9_on
theorem dX9_fits_0 : decode cX9_fits 0 = .ok (.iload_n 3, 1) := by decide +kernel
theorem dX9_fits_1 : decode cX9_fits 1 = .ok (.iload_n 1, 1) := by decide +kernel
theorem dX9_fits_2 : decode cX9_fits 2 = .ok (.iadd, 1) := by decide +kernel
theorem dX9_fits_3 : decode cX9_fits 3 = .ok (.bipush 20, 2) := by decide +kernel
theorem dX9_fits_5 : decode cX9_fits 5 = .ok (.if_icmp .gt 7, 3) := by decide +kernel
theorem dX9_fits_8 : decode cX9_fits 8 = .ok (.iconst 1, 1) := by decide +kernel
theorem dX9_fits_9 : decode cX9_fits 9 = .ok (.goto 4, 3) := by decide +kernel
theorem dX9_fits_12 : decode cX9_fits 12 = .ok (.iconst 0, 1) := by decide +kernel
theorem dX9_fits_13 : decode cX9_fits 13 = .ok (.istore 4, 2) := by decide +kernel
theorem dX9_fits_15 : decode cX9_fits 15 = .ok (.iload_n 3, 1) := by decide +kernel
theorem dX9_fits_16 : decode cX9_fits 16 = .ok (.istore 5, 2) := by decide +kernel
theorem dX9_fits_18 : decode cX9_fits 18 = .ok (.iload 5, 2) := by decide +kernel
theorem dX9_fits_20 : decode cX9_fits 20 = .ok (.iload_n 3, 1) := by decide +kernel
theorem dX9_fits_21 : decode cX9_fits 21 = .ok (.iload_n 1, 1) := by decide +kernel
theorem dX9_fits_22 : decode cX9_fits 22 = .ok (.iadd, 1) := by decide +kernel
theorem dX9_fits_23 : decode cX9_fits 23 = .ok (.if_icmp .ge 32, 3) := by decide +kernel
theorem dX9_fits_26 : decode cX9_fits 26 = .ok (.iload 4, 2) := by decide +kernel
theorem dX9_fits_28 : decode cX9_fits 28 = .ok (.ifCond .eq 27, 3) := by decide +kernel
theorem dX9_fits_31 : decode cX9_fits 31 = .ok (.aload_n 0, 1) := by decide +kernel
theorem dX9_fits_32 : decode cX9_fits 32 = .ok (.iload_n 2, 1) := by decide +kernel
theorem dX9_fits_33 : decode cX9_fits 33 = .ok (.iload 5, 2) := by decide +kernel
theorem dX9_fits_35 : decode cX9_fits 35 = .ok (.invokevirtual 50, 3) := by decide +kernel
theorem dX9_fits_38 : decode cX9_fits 38 = .ok (.iconst (-1), 1) := by decide +kernel
theorem dX9_fits_39 : decode cX9_fits 39 = .ok (.if_icmp .ne 7, 3) := by decide +kernel
theorem dX9_fits_42 : decode cX9_fits 42 = .ok (.iconst 1, 1) := by decide +kernel
theorem dX9_fits_43 : decode cX9_fits 43 = .ok (.goto 4, 3) := by decide +kernel
theorem dX9_fits_46 : decode cX9_fits 46 = .ok (.iconst 0, 1) := by decide +kernel
theorem dX9_fits_47 : decode cX9_fits 47 = .ok (.istore 4, 2) := by decide +kernel
theorem dX9_fits_49 : decode cX9_fits 49 = .ok (.iinc 5 1, 3) := by decide +kernel
theorem dX9_fits_52 : decode cX9_fits 52 = .ok (.goto (-34), 3) := by decide +kernel
theorem dX9_fits_55 : decode cX9_fits 55 = .ok (.iload 4, 2) := by decide +kernel
theorem dX9_fits_57 : decode cX9_fits 57 = .ok (.ireturn, 1) := by decide +kernel
set_option maxRecDepth 20000 in
theorem ggX9_place_X9_fits : GoodIn wsX9_place wsX9_fits := goodIn_r _ [5, 6, 7, 8, 4, 9, 10, 11, 12, 13, 14, 15, 16, 17, 18, 19, 20, 21, 22, 23, 24, 25, 26, 27, 28, 29, 30] (by decide +kernel) (by decide +kernel)
set_option maxRecDepth 20000 in
theorem gX9_place_X9_fits : GoodIn wsX9_place (wsV RX9 53 RX9 yX9_fits wsX9_fits) := goodIn_app (goodIn_of _ (by decide +kernel)) ggX9_place_X9_fits
theorem dX9_place_0 : decode cX9_place 0 = .ok (.iconst 0, 1) := by decide +kernel
theorem dX9_place_1 : decode cX9_place 1 = .ok (.istore_n 2, 1) := by decide +kernel
theorem dX9_place_2 : decode cX9_place 2 = .ok (.iload_n 2, 1) := by decide +kernel
theorem dX9_place_3 : decode cX9_place 3 = .ok (.bipush 40, 2) := by decide +kernel
theorem dX9_place_5 : decode cX9_place 5 = .ok (.if_icmp .ge 34, 3) := by decide +kernel
theorem dX9_place_8 : decode cX9_place 8 = .ok (.aload_n 0, 1) := by decide +kernel
theorem dX9_place_9 : decode cX9_place 9 = .ok (.iload_n 1, 1) := by decide +kernel
theorem dX9_place_10 : decode cX9_place 10 = .ok (.iload_n 2, 1) := by decide +kernel
theorem dX9_place_11 : decode cX9_place 11 = .ok (.iconst 2, 1) := by decide +kernel
theorem dX9_place_12 : decode cX9_place 12 = .ok (.irem, 1) := by decide +kernel
theorem dX9_place_13 : decode cX9_place 13 = .ok (.iload_n 2, 1) := by decide +kernel
theorem dX9_place_14 : decode cX9_place 14 = .ok (.iconst 2, 1) := by decide +kernel
theorem dX9_place_15 : decode cX9_place 15 = .ok (.idiv, 1) := by decide +kernel
theorem dX9_place_16 : decode cX9_place 16 = .ok (.invokevirtual 53, 3) := by decide +kernel
theorem dX9_place_19 : decode cX9_place 19 = .ok (.ifCond .eq 14, 3) := by decide +kernel
theorem dX9_place_22 : decode cX9_place 22 = .ok (.bipush 20, 2) := by decide +kernel
theorem dX9_place_24 : decode cX9_place 24 = .ok (.iload_n 2, 1) := by decide +kernel
theorem dX9_place_25 : decode cX9_place 25 = .ok (.iconst 2, 1) := by decide +kernel
theorem dX9_place_26 : decode cX9_place 26 = .ok (.irem, 1) := by decide +kernel
theorem dX9_place_27 : decode cX9_place 27 = .ok (.imul, 1) := by decide +kernel
theorem dX9_place_28 : decode cX9_place 28 = .ok (.iload_n 2, 1) := by decide +kernel
theorem dX9_place_29 : decode cX9_place 29 = .ok (.iconst 2, 1) := by decide +kernel
theorem dX9_place_30 : decode cX9_place 30 = .ok (.idiv, 1) := by decide +kernel
theorem dX9_place_31 : decode cX9_place 31 = .ok (.iadd, 1) := by decide +kernel
theorem dX9_place_32 : decode cX9_place 32 = .ok (.ireturn, 1) := by decide +kernel
theorem dX9_place_33 : decode cX9_place 33 = .ok (.iinc 2 1, 3) := by decide +kernel
theorem dX9_place_36 : decode cX9_place 36 = .ok (.goto (-34), 3) := by decide +kernel
theorem dX9_place_39 : decode cX9_place 39 = .ok (.iconst (-1), 1) := by decide +kernel
theorem dX9_place_40 : decode cX9_place 40 = .ok (.ireturn, 1) := by decide +kernel
set_option maxRecDepth 20000 in
theorem ggX9_way_X9_of : GoodIn wsX9_way wsX9_of := goodIn_r _ [5, 6, 7, 8, 9, 10, 11, 12, 13, 14, 15, 16, 17, 18, 19] (by decide +kernel) (by decide +kernel)
set_option maxRecDepth 20000 in
theorem gX9_way_X9_of : GoodIn wsX9_way (wsV RX9 46 RX9 yX9_of wsX9_of) := goodIn_app (goodIn_of _ (by decide +kernel)) ggX9_way_X9_of
theorem dX9_way_0 : decode cX9_way 0 = .ok (.aload_n 0, 1) := by decide +kernel
theorem dX9_way_1 : decode cX9_way 1 = .ok (.iload_n 1, 1) := by decide +kernel
theorem dX9_way_2 : decode cX9_way 2 = .ok (.iconst 2, 1) := by decide +kernel
theorem dX9_way_3 : decode cX9_way 3 = .ok (.invokevirtual 46, 3) := by decide +kernel
theorem dX9_way_6 : decode cX9_way 6 = .ok (.iconst 2, 1) := by decide +kernel
theorem dX9_way_7 : decode cX9_way 7 = .ok (.aload_n 0, 1) := by decide +kernel
theorem dX9_way_8 : decode cX9_way 8 = .ok (.iload_n 1, 1) := by decide +kernel
theorem dX9_way_9 : decode cX9_way 9 = .ok (.iconst 1, 1) := by decide +kernel
theorem dX9_way_10 : decode cX9_way 10 = .ok (.invokevirtual 46, 3) := by decide +kernel
theorem dX9_way_13 : decode cX9_way 13 = .ok (.imul, 1) := by decide +kernel
theorem dX9_way_14 : decode cX9_way 14 = .ok (.iadd, 1) := by decide +kernel
theorem dX9_way_15 : decode cX9_way 15 = .ok (.ireturn, 1) := by decide +kernel
set_option maxRecDepth 20000 in
theorem ggX9_puts_X9_lay : GoodIn wsX9_puts wsX9_lay := goodIn_r _ [5, 6, 7, 8, 9, 10, 11, 12, 13, 14, 15, 16, 17, 18, 19] (by decide +kernel) (by decide +kernel)
set_option maxRecDepth 20000 in
theorem gX9_puts_X9_lay : GoodIn wsX9_puts (wsV RX9 56 RX9 yX9_lay wsX9_lay) := goodIn_app (goodIn_of _ (by decide +kernel)) ggX9_puts_X9_lay
theorem dX9_puts_0 : decode cX9_puts 0 = .ok (.aload_n 0, 1) := by decide +kernel
theorem dX9_puts_1 : decode cX9_puts 1 = .ok (.iload_n 1, 1) := by decide +kernel
theorem dX9_puts_2 : decode cX9_puts 2 = .ok (.iconst 1, 1) := by decide +kernel
theorem dX9_puts_3 : decode cX9_puts 3 = .ok (.iload_n 2, 1) := by decide +kernel
theorem dX9_puts_4 : decode cX9_puts 4 = .ok (.bipush 20, 2) := by decide +kernel
theorem dX9_puts_6 : decode cX9_puts 6 = .ok (.idiv, 1) := by decide +kernel
theorem dX9_puts_7 : decode cX9_puts 7 = .ok (.invokevirtual 56, 3) := by decide +kernel
theorem dX9_puts_10 : decode cX9_puts 10 = .ok (.aload_n 0, 1) := by decide +kernel
theorem dX9_puts_11 : decode cX9_puts 11 = .ok (.iload_n 1, 1) := by decide +kernel
theorem dX9_puts_12 : decode cX9_puts 12 = .ok (.iconst 2, 1) := by decide +kernel
theorem dX9_puts_13 : decode cX9_puts 13 = .ok (.iload_n 2, 1) := by decide +kernel
theorem dX9_puts_14 : decode cX9_puts 14 = .ok (.bipush 20, 2) := by decide +kernel
theorem dX9_puts_16 : decode cX9_puts 16 = .ok (.irem, 1) := by decide +kernel
theorem dX9_puts_17 : decode cX9_puts 17 = .ok (.invokevirtual 56, 3) := by decide +kernel
theorem dX9_puts_20 : decode cX9_puts 20 = .ok (.return_, 1) := by decide +kernel
set_option maxRecDepth 20000 in
theorem ggX9_freeMany_X9_on : GoodIn wsX9_freeMany wsX9_on := goodIn_r _ [5, 6, 7, 8, 9, 4, 10, 11, 12, 13, 14, 15, 16, 17, 18, 19, 20, 21, 22, 23, 24, 25, 26] (by decide +kernel) (by decide +kernel)
set_option maxRecDepth 20000 in
theorem gX9_freeMany_X9_on : GoodIn wsX9_freeMany (wsV RX9 50 RX9 yX9_on wsX9_on) := goodIn_app (goodIn_of _ (by decide +kernel)) ggX9_freeMany_X9_on
theorem dX9_freeMany_0 : decode cX9_freeMany 0 = .ok (.iconst 0, 1) := by decide +kernel
theorem dX9_freeMany_1 : decode cX9_freeMany 1 = .ok (.istore_n 1, 1) := by decide +kernel
theorem dX9_freeMany_2 : decode cX9_freeMany 2 = .ok (.iconst 0, 1) := by decide +kernel
theorem dX9_freeMany_3 : decode cX9_freeMany 3 = .ok (.istore_n 2, 1) := by decide +kernel
theorem dX9_freeMany_4 : decode cX9_freeMany 4 = .ok (.iload_n 2, 1) := by decide +kernel
theorem dX9_freeMany_5 : decode cX9_freeMany 5 = .ok (.bipush 40, 2) := by decide +kernel
theorem dX9_freeMany_7 : decode cX9_freeMany 7 = .ok (.if_icmp .ge 33, 3) := by decide +kernel
theorem dX9_freeMany_10 : decode cX9_freeMany 10 = .ok (.iload_n 1, 1) := by decide +kernel
theorem dX9_freeMany_11 : decode cX9_freeMany 11 = .ok (.aload_n 0, 1) := by decide +kernel
theorem dX9_freeMany_12 : decode cX9_freeMany 12 = .ok (.iload_n 2, 1) := by decide +kernel
theorem dX9_freeMany_13 : decode cX9_freeMany 13 = .ok (.bipush 20, 2) := by decide +kernel
theorem dX9_freeMany_15 : decode cX9_freeMany 15 = .ok (.idiv, 1) := by decide +kernel
theorem dX9_freeMany_16 : decode cX9_freeMany 16 = .ok (.iload_n 2, 1) := by decide +kernel
theorem dX9_freeMany_17 : decode cX9_freeMany 17 = .ok (.bipush 20, 2) := by decide +kernel
theorem dX9_freeMany_19 : decode cX9_freeMany 19 = .ok (.irem, 1) := by decide +kernel
theorem dX9_freeMany_20 : decode cX9_freeMany 20 = .ok (.invokevirtual 50, 3) := by decide +kernel
theorem dX9_freeMany_23 : decode cX9_freeMany 23 = .ok (.iconst (-1), 1) := by decide +kernel
theorem dX9_freeMany_24 : decode cX9_freeMany 24 = .ok (.if_icmp .ne 7, 3) := by decide +kernel
theorem dX9_freeMany_27 : decode cX9_freeMany 27 = .ok (.iconst 1, 1) := by decide +kernel
theorem dX9_freeMany_28 : decode cX9_freeMany 28 = .ok (.goto 4, 3) := by decide +kernel
theorem dX9_freeMany_31 : decode cX9_freeMany 31 = .ok (.iconst 0, 1) := by decide +kernel
theorem dX9_freeMany_32 : decode cX9_freeMany 32 = .ok (.iadd, 1) := by decide +kernel
theorem dX9_freeMany_33 : decode cX9_freeMany 33 = .ok (.istore_n 1, 1) := by decide +kernel
theorem dX9_freeMany_34 : decode cX9_freeMany 34 = .ok (.iinc 2 1, 3) := by decide +kernel
theorem dX9_freeMany_37 : decode cX9_freeMany 37 = .ok (.goto (-33), 3) := by decide +kernel
theorem dX9_freeMany_40 : decode cX9_freeMany 40 = .ok (.iload_n 1, 1) := by decide +kernel
theorem dX9_freeMany_41 : decode cX9_freeMany 41 = .ok (.ireturn, 1) := by decide +kernel
set_option maxRecDepth 20000 in
theorem ggX9_gap_X9_on : GoodIn wsX9_gap wsX9_on := goodIn_r _ [5, 6, 7, 8, 9, 4, 10, 11, 12, 13, 14, 15, 16, 17, 18, 19, 20, 21, 22, 23, 24, 25, 26] (by decide +kernel) (by decide +kernel)
set_option maxRecDepth 20000 in
theorem gX9_gap_X9_on : GoodIn wsX9_gap (wsV RX9 50 RX9 yX9_on wsX9_on) := goodIn_app (goodIn_of _ (by decide +kernel)) ggX9_gap_X9_on
theorem dX9_gap_0 : decode cX9_gap 0 = .ok (.iconst 0, 1) := by decide +kernel
theorem dX9_gap_1 : decode cX9_gap 1 = .ok (.istore_n 2, 1) := by decide +kernel
theorem dX9_gap_2 : decode cX9_gap 2 = .ok (.iconst 0, 1) := by decide +kernel
theorem dX9_gap_3 : decode cX9_gap 3 = .ok (.istore_n 3, 1) := by decide +kernel
theorem dX9_gap_4 : decode cX9_gap 4 = .ok (.iconst 0, 1) := by decide +kernel
theorem dX9_gap_5 : decode cX9_gap 5 = .ok (.istore 4, 2) := by decide +kernel
theorem dX9_gap_7 : decode cX9_gap 7 = .ok (.iload 4, 2) := by decide +kernel
theorem dX9_gap_9 : decode cX9_gap 9 = .ok (.bipush 20, 2) := by decide +kernel
theorem dX9_gap_11 : decode cX9_gap 11 = .ok (.if_icmp .ge 39, 3) := by decide +kernel
theorem dX9_gap_14 : decode cX9_gap 14 = .ok (.aload_n 0, 1) := by decide +kernel
theorem dX9_gap_15 : decode cX9_gap 15 = .ok (.iload_n 1, 1) := by decide +kernel
theorem dX9_gap_16 : decode cX9_gap 16 = .ok (.iload 4, 2) := by decide +kernel
theorem dX9_gap_18 : decode cX9_gap 18 = .ok (.invokevirtual 50, 3) := by decide +kernel
theorem dX9_gap_21 : decode cX9_gap 21 = .ok (.iconst (-1), 1) := by decide +kernel
theorem dX9_gap_22 : decode cX9_gap 22 = .ok (.if_icmp .ne 9, 3) := by decide +kernel
theorem dX9_gap_25 : decode cX9_gap 25 = .ok (.iload_n 3, 1) := by decide +kernel
theorem dX9_gap_26 : decode cX9_gap 26 = .ok (.iconst 1, 1) := by decide +kernel
theorem dX9_gap_27 : decode cX9_gap 27 = .ok (.iadd, 1) := by decide +kernel
theorem dX9_gap_28 : decode cX9_gap 28 = .ok (.goto 4, 3) := by decide +kernel
theorem dX9_gap_31 : decode cX9_gap 31 = .ok (.iconst 0, 1) := by decide +kernel
theorem dX9_gap_32 : decode cX9_gap 32 = .ok (.istore_n 3, 1) := by decide +kernel
theorem dX9_gap_33 : decode cX9_gap 33 = .ok (.iload_n 3, 1) := by decide +kernel
theorem dX9_gap_34 : decode cX9_gap 34 = .ok (.iload_n 2, 1) := by decide +kernel
theorem dX9_gap_35 : decode cX9_gap 35 = .ok (.if_icmp .le 7, 3) := by decide +kernel
theorem dX9_gap_38 : decode cX9_gap 38 = .ok (.iload_n 3, 1) := by decide +kernel
theorem dX9_gap_39 : decode cX9_gap 39 = .ok (.goto 4, 3) := by decide +kernel
theorem dX9_gap_42 : decode cX9_gap 42 = .ok (.iload_n 2, 1) := by decide +kernel
theorem dX9_gap_43 : decode cX9_gap 43 = .ok (.istore_n 2, 1) := by decide +kernel
theorem dX9_gap_44 : decode cX9_gap 44 = .ok (.iinc 4 1, 3) := by decide +kernel
theorem dX9_gap_47 : decode cX9_gap 47 = .ok (.goto (-40), 3) := by decide +kernel
theorem dX9_gap_50 : decode cX9_gap 50 = .ok (.iload_n 2, 1) := by decide +kernel
theorem dX9_gap_51 : decode cX9_gap 51 = .ok (.ireturn, 1) := by decide +kernel
theorem dX9_notesTrip_0 : decode cX9_notesTrip 0 = .ok (.bipush 15, 2) := by decide +kernel
theorem dX9_notesTrip_2 : decode cX9_notesTrip 2 = .ok (.istore_n 3, 1) := by decide +kernel
theorem dX9_notesTrip_3 : decode cX9_notesTrip 3 = .ok (.iload_n 3, 1) := by decide +kernel
theorem dX9_notesTrip_4 : decode cX9_notesTrip 4 = .ok (.iconst 1, 1) := by decide +kernel
theorem dX9_notesTrip_5 : decode cX9_notesTrip 5 = .ok (.if_icmp .le 31, 3) := by decide +kernel
theorem dX9_notesTrip_8 : decode cX9_notesTrip 8 = .ok (.aload_n 0, 1) := by decide +kernel
theorem dX9_notesTrip_9 : decode cX9_notesTrip 9 = .ok (.getfield 7, 3) := by decide +kernel
theorem dX9_notesTrip_12 : decode cX9_notesTrip 12 = .ok (.sipush 207, 3) := by decide +kernel
theorem dX9_notesTrip_15 : decode cX9_notesTrip 15 = .ok (.iload_n 3, 1) := by decide +kernel
theorem dX9_notesTrip_16 : decode cX9_notesTrip 16 = .ok (.iadd, 1) := by decide +kernel
theorem dX9_notesTrip_17 : decode cX9_notesTrip 17 = .ok (.aload_n 0, 1) := by decide +kernel
theorem dX9_notesTrip_18 : decode cX9_notesTrip 18 = .ok (.getfield 7, 3) := by decide +kernel
theorem dX9_notesTrip_21 : decode cX9_notesTrip 21 = .ok (.sipush 207, 3) := by decide +kernel
theorem dX9_notesTrip_24 : decode cX9_notesTrip 24 = .ok (.iload_n 3, 1) := by decide +kernel
theorem dX9_notesTrip_25 : decode cX9_notesTrip 25 = .ok (.iadd, 1) := by decide +kernel
theorem dX9_notesTrip_26 : decode cX9_notesTrip 26 = .ok (.iconst 2, 1) := by decide +kernel
theorem dX9_notesTrip_27 : decode cX9_notesTrip 27 = .ok (.isub, 1) := by decide +kernel
theorem dX9_notesTrip_28 : decode cX9_notesTrip 28 = .ok (.iaload, 1) := by decide +kernel
theorem dX9_notesTrip_29 : decode cX9_notesTrip 29 = .ok (.iastore, 1) := by decide +kernel
theorem dX9_notesTrip_30 : decode cX9_notesTrip 30 = .ok (.iinc 3 (-1), 3) := by decide +kernel
theorem dX9_notesTrip_33 : decode cX9_notesTrip 33 = .ok (.goto (-30), 3) := by decide +kernel
theorem dX9_notesTrip_36 : decode cX9_notesTrip 36 = .ok (.aload_n 0, 1) := by decide +kernel
theorem dX9_notesTrip_37 : decode cX9_notesTrip 37 = .ok (.getfield 7, 3) := by decide +kernel
theorem dX9_notesTrip_40 : decode cX9_notesTrip 40 = .ok (.sipush 207, 3) := by decide +kernel
theorem dX9_notesTrip_43 : decode cX9_notesTrip 43 = .ok (.iload_n 1, 1) := by decide +kernel
theorem dX9_notesTrip_44 : decode cX9_notesTrip 44 = .ok (.iastore, 1) := by decide +kernel
theorem dX9_notesTrip_45 : decode cX9_notesTrip 45 = .ok (.aload_n 0, 1) := by decide +kernel
theorem dX9_notesTrip_46 : decode cX9_notesTrip 46 = .ok (.getfield 7, 3) := by decide +kernel
theorem dX9_notesTrip_49 : decode cX9_notesTrip 49 = .ok (.sipush 208, 3) := by decide +kernel
theorem dX9_notesTrip_52 : decode cX9_notesTrip 52 = .ok (.iload_n 2, 1) := by decide +kernel
theorem dX9_notesTrip_53 : decode cX9_notesTrip 53 = .ok (.iastore, 1) := by decide +kernel
theorem dX9_notesTrip_54 : decode cX9_notesTrip 54 = .ok (.aload_n 0, 1) := by decide +kernel
theorem dX9_notesTrip_55 : decode cX9_notesTrip 55 = .ok (.getfield 7, 3) := by decide +kernel
theorem dX9_notesTrip_58 : decode cX9_notesTrip 58 = .ok (.bipush 7, 2) := by decide +kernel
theorem dX9_notesTrip_60 : decode cX9_notesTrip 60 = .ok (.dup2, 1) := by decide +kernel
theorem dX9_notesTrip_61 : decode cX9_notesTrip 61 = .ok (.iaload, 1) := by decide +kernel
theorem dX9_notesTrip_62 : decode cX9_notesTrip 62 = .ok (.aload_n 0, 1) := by decide +kernel
theorem dX9_notesTrip_63 : decode cX9_notesTrip 63 = .ok (.getfield 7, 3) := by decide +kernel
theorem dX9_notesTrip_66 : decode cX9_notesTrip 66 = .ok (.bipush 7, 2) := by decide +kernel
theorem dX9_notesTrip_68 : decode cX9_notesTrip 68 = .ok (.iaload, 1) := by decide +kernel
theorem dX9_notesTrip_69 : decode cX9_notesTrip 69 = .ok (.bipush 8, 2) := by decide +kernel
theorem dX9_notesTrip_71 : decode cX9_notesTrip 71 = .ok (.if_icmp .ge 7, 3) := by decide +kernel
theorem dX9_notesTrip_74 : decode cX9_notesTrip 74 = .ok (.iconst 1, 1) := by decide +kernel
theorem dX9_notesTrip_75 : decode cX9_notesTrip 75 = .ok (.goto 4, 3) := by decide +kernel
theorem dX9_notesTrip_78 : decode cX9_notesTrip 78 = .ok (.iconst 0, 1) := by decide +kernel
theorem dX9_notesTrip_79 : decode cX9_notesTrip 79 = .ok (.iadd, 1) := by decide +kernel
theorem dX9_notesTrip_80 : decode cX9_notesTrip 80 = .ok (.iastore, 1) := by decide +kernel
theorem dX9_notesTrip_81 : decode cX9_notesTrip 81 = .ok (.aload_n 0, 1) := by decide +kernel
theorem dX9_notesTrip_82 : decode cX9_notesTrip 82 = .ok (.getfield 7, 3) := by decide +kernel
theorem dX9_notesTrip_85 : decode cX9_notesTrip 85 = .ok (.iconst 4, 1) := by decide +kernel
theorem dX9_notesTrip_86 : decode cX9_notesTrip 86 = .ok (.dup2, 1) := by decide +kernel
theorem dX9_notesTrip_87 : decode cX9_notesTrip 87 = .ok (.iaload, 1) := by decide +kernel
theorem dX9_notesTrip_88 : decode cX9_notesTrip 88 = .ok (.iload_n 1, 1) := by decide +kernel
theorem dX9_notesTrip_89 : decode cX9_notesTrip 89 = .ok (.iadd, 1) := by decide +kernel
theorem dX9_notesTrip_90 : decode cX9_notesTrip 90 = .ok (.iastore, 1) := by decide +kernel
theorem dX9_notesTrip_91 : decode cX9_notesTrip 91 = .ok (.return_, 1) := by decide +kernel
set_option maxRecDepth 20000 in
theorem ggX9_wayTo_X9_of : GoodIn wsX9_wayTo wsX9_of := goodIn_r _ [6, 1, 11, 12, 13, 14, 15, 16, 17, 18, 19, 20, 21, 22, 23] (by decide +kernel) (by decide +kernel)
set_option maxRecDepth 20000 in
theorem gX9_wayTo_X9_of : GoodIn wsX9_wayTo (wsV RX9 46 RX9 yX9_of wsX9_of) := goodIn_app (goodIn_of _ (by decide +kernel)) ggX9_wayTo_X9_of
set_option maxRecDepth 20000 in
theorem ggX9_wayTo_X9_way : GoodIn wsX9_wayTo wsX9_way := goodIn_r _ [10, 2, 3, 4, 5, 6, 1, 11, 12, 13, 14, 15, 16, 17, 18, 19, 20, 21, 22, 23] (by decide +kernel) (by decide +kernel)
set_option maxRecDepth 20000 in
theorem gX9_wayTo_X9_way : GoodIn wsX9_wayTo (wsV RX9 60 RX9 yX9_way wsX9_way) := goodIn_app (goodIn_of _ (by decide +kernel)) ggX9_wayTo_X9_way
theorem dX9_wayTo_0 : decode cX9_wayTo 0 = .ok (.aload_n 0, 1) := by decide +kernel
theorem dX9_wayTo_1 : decode cX9_wayTo 1 = .ok (.getfield 7, 3) := by decide +kernel
theorem dX9_wayTo_4 : decode cX9_wayTo 4 = .ok (.iconst 2, 1) := by decide +kernel
theorem dX9_wayTo_5 : decode cX9_wayTo 5 = .ok (.iaload, 1) := by decide +kernel
theorem dX9_wayTo_6 : decode cX9_wayTo 6 = .ok (.aload_n 0, 1) := by decide +kernel
theorem dX9_wayTo_7 : decode cX9_wayTo 7 = .ok (.iload_n 1, 1) := by decide +kernel
theorem dX9_wayTo_8 : decode cX9_wayTo 8 = .ok (.iconst 2, 1) := by decide +kernel
theorem dX9_wayTo_9 : decode cX9_wayTo 9 = .ok (.invokevirtual 46, 3) := by decide +kernel
theorem dX9_wayTo_12 : decode cX9_wayTo 12 = .ok (.isub, 1) := by decide +kernel
theorem dX9_wayTo_13 : decode cX9_wayTo 13 = .ok (.istore_n 2, 1) := by decide +kernel
theorem dX9_wayTo_14 : decode cX9_wayTo 14 = .ok (.iload_n 2, 1) := by decide +kernel
theorem dX9_wayTo_15 : decode cX9_wayTo 15 = .ok (.ifCond .ge 8, 3) := by decide +kernel
theorem dX9_wayTo_18 : decode cX9_wayTo 18 = .ok (.iload_n 2, 1) := by decide +kernel
theorem dX9_wayTo_19 : decode cX9_wayTo 19 = .ok (.ineg, 1) := by decide +kernel
theorem dX9_wayTo_20 : decode cX9_wayTo 20 = .ok (.goto 4, 3) := by decide +kernel
theorem dX9_wayTo_23 : decode cX9_wayTo 23 = .ok (.iload_n 2, 1) := by decide +kernel
theorem dX9_wayTo_24 : decode cX9_wayTo 24 = .ok (.aload_n 0, 1) := by decide +kernel
theorem dX9_wayTo_25 : decode cX9_wayTo 25 = .ok (.iload_n 1, 1) := by decide +kernel
theorem dX9_wayTo_26 : decode cX9_wayTo 26 = .ok (.invokevirtual 60, 3) := by decide +kernel
theorem dX9_wayTo_29 : decode cX9_wayTo 29 = .ok (.iadd, 1) := by decide +kernel
theorem dX9_wayTo_30 : decode cX9_wayTo 30 = .ok (.ireturn, 1) := by decide +kernel
set_option maxRecDepth 20000 in
theorem ggX9_fetchesIt_X9_wayTo : GoodIn wsX9_fetchesIt wsX9_wayTo := goodIn_r _ [6, 1, 7, 8, 9, 5, 10, 11, 12, 13, 14, 23, 24, 25, 26, 27, 28, 29, 30, 31, 32, 33, 34, 35] (by decide +kernel) (by decide +kernel)
set_option maxRecDepth 20000 in
theorem gX9_fetchesIt_X9_wayTo : GoodIn wsX9_fetchesIt (wsV RX9 64 RX9 yX9_wayTo wsX9_wayTo) := goodIn_app (goodIn_of _ (by decide +kernel)) ggX9_fetchesIt_X9_wayTo
set_option maxRecDepth 20000 in
theorem ggX9_fetchesIt_X9_of : GoodIn wsX9_fetchesIt wsX9_of := goodIn_r _ [10, 1, 23, 24, 25, 26, 27, 28, 29, 30, 31, 32, 33, 34, 35] (by decide +kernel) (by decide +kernel)
set_option maxRecDepth 20000 in
theorem gX9_fetchesIt_X9_of : GoodIn wsX9_fetchesIt (wsV RX9 46 RX9 yX9_of wsX9_of) := goodIn_app (goodIn_of _ (by decide +kernel)) ggX9_fetchesIt_X9_of
set_option maxRecDepth 20000 in
theorem ggX9_fetchesIt_X9_lay : GoodIn wsX9_fetchesIt wsX9_lay := goodIn_r _ [18, 1, 23, 24, 25, 26, 27, 28, 29, 30, 31, 32, 33, 34, 35] (by decide +kernel) (by decide +kernel)
set_option maxRecDepth 20000 in
theorem gX9_fetchesIt_X9_lay : GoodIn wsX9_fetchesIt (wsV RX9 56 RX9 yX9_lay wsX9_lay) := goodIn_app (goodIn_of _ (by decide +kernel)) ggX9_fetchesIt_X9_lay
set_option maxRecDepth 20000 in
theorem ggX9_fetchesIt_X9_notesTrip : GoodIn wsX9_fetchesIt wsX9_notesTrip := goodIn_r _ [22, 1, 23, 24, 25, 26, 27, 28, 29, 30, 31, 32, 33, 34, 35] (by decide +kernel) (by decide +kernel)
set_option maxRecDepth 20000 in
theorem gX9_fetchesIt_X9_notesTrip : GoodIn wsX9_fetchesIt (wsV RX9 67 RX9 yX9_notesTrip wsX9_notesTrip) := goodIn_app (goodIn_of _ (by decide +kernel)) ggX9_fetchesIt_X9_notesTrip
theorem dX9_fetchesIt_0 : decode cX9_fetchesIt 0 = .ok (.aload_n 0, 1) := by decide +kernel
theorem dX9_fetchesIt_1 : decode cX9_fetchesIt 1 = .ok (.iload_n 1, 1) := by decide +kernel
theorem dX9_fetchesIt_2 : decode cX9_fetchesIt 2 = .ok (.invokevirtual 64, 3) := by decide +kernel
theorem dX9_fetchesIt_5 : decode cX9_fetchesIt 5 = .ok (.istore_n 2, 1) := by decide +kernel
theorem dX9_fetchesIt_6 : decode cX9_fetchesIt 6 = .ok (.aload_n 0, 1) := by decide +kernel
theorem dX9_fetchesIt_7 : decode cX9_fetchesIt 7 = .ok (.getfield 7, 3) := by decide +kernel
theorem dX9_fetchesIt_10 : decode cX9_fetchesIt 10 = .ok (.iconst 2, 1) := by decide +kernel
theorem dX9_fetchesIt_11 : decode cX9_fetchesIt 11 = .ok (.iconst 0, 1) := by decide +kernel
theorem dX9_fetchesIt_12 : decode cX9_fetchesIt 12 = .ok (.iastore, 1) := by decide +kernel
theorem dX9_fetchesIt_13 : decode cX9_fetchesIt 13 = .ok (.aload_n 0, 1) := by decide +kernel
theorem dX9_fetchesIt_14 : decode cX9_fetchesIt 14 = .ok (.getfield 7, 3) := by decide +kernel
theorem dX9_fetchesIt_17 : decode cX9_fetchesIt 17 = .ok (.iconst 1, 1) := by decide +kernel
theorem dX9_fetchesIt_18 : decode cX9_fetchesIt 18 = .ok (.iload_n 1, 1) := by decide +kernel
theorem dX9_fetchesIt_19 : decode cX9_fetchesIt 19 = .ok (.iastore, 1) := by decide +kernel
theorem dX9_fetchesIt_20 : decode cX9_fetchesIt 20 = .ok (.aload_n 0, 1) := by decide +kernel
theorem dX9_fetchesIt_21 : decode cX9_fetchesIt 21 = .ok (.getfield 7, 3) := by decide +kernel
theorem dX9_fetchesIt_24 : decode cX9_fetchesIt 24 = .ok (.iconst 5, 1) := by decide +kernel
theorem dX9_fetchesIt_25 : decode cX9_fetchesIt 25 = .ok (.dup2, 1) := by decide +kernel
theorem dX9_fetchesIt_26 : decode cX9_fetchesIt 26 = .ok (.iaload, 1) := by decide +kernel
theorem dX9_fetchesIt_27 : decode cX9_fetchesIt 27 = .ok (.iconst 1, 1) := by decide +kernel
theorem dX9_fetchesIt_28 : decode cX9_fetchesIt 28 = .ok (.iadd, 1) := by decide +kernel
theorem dX9_fetchesIt_29 : decode cX9_fetchesIt 29 = .ok (.iastore, 1) := by decide +kernel
theorem dX9_fetchesIt_30 : decode cX9_fetchesIt 30 = .ok (.aload_n 0, 1) := by decide +kernel
theorem dX9_fetchesIt_31 : decode cX9_fetchesIt 31 = .ok (.iload_n 1, 1) := by decide +kernel
theorem dX9_fetchesIt_32 : decode cX9_fetchesIt 32 = .ok (.iconst 3, 1) := by decide +kernel
theorem dX9_fetchesIt_33 : decode cX9_fetchesIt 33 = .ok (.aload_n 0, 1) := by decide +kernel
theorem dX9_fetchesIt_34 : decode cX9_fetchesIt 34 = .ok (.iload_n 1, 1) := by decide +kernel
theorem dX9_fetchesIt_35 : decode cX9_fetchesIt 35 = .ok (.iconst 3, 1) := by decide +kernel
theorem dX9_fetchesIt_36 : decode cX9_fetchesIt 36 = .ok (.invokevirtual 46, 3) := by decide +kernel
theorem dX9_fetchesIt_39 : decode cX9_fetchesIt 39 = .ok (.iconst 1, 1) := by decide +kernel
theorem dX9_fetchesIt_40 : decode cX9_fetchesIt 40 = .ok (.iadd, 1) := by decide +kernel
theorem dX9_fetchesIt_41 : decode cX9_fetchesIt 41 = .ok (.invokevirtual 56, 3) := by decide +kernel
theorem dX9_fetchesIt_44 : decode cX9_fetchesIt 44 = .ok (.aload_n 0, 1) := by decide +kernel
theorem dX9_fetchesIt_45 : decode cX9_fetchesIt 45 = .ok (.iload_n 2, 1) := by decide +kernel
theorem dX9_fetchesIt_46 : decode cX9_fetchesIt 46 = .ok (.iconst 1, 1) := by decide +kernel
theorem dX9_fetchesIt_47 : decode cX9_fetchesIt 47 = .ok (.invokevirtual 67, 3) := by decide +kernel
theorem dX9_fetchesIt_50 : decode cX9_fetchesIt 50 = .ok (.iload_n 2, 1) := by decide +kernel
theorem dX9_fetchesIt_51 : decode cX9_fetchesIt 51 = .ok (.ireturn, 1) := by decide +kernel
set_option maxRecDepth 20000 in
theorem ggX9_stows_X9_puts : GoodIn wsX9_stows wsX9_puts := goodIn_r _ [6, 7, 8, 9, 5, 10, 1, 23, 24, 25, 26, 27, 28, 29, 30, 31, 32, 33, 34, 35] (by decide +kernel) (by decide +kernel)
set_option maxRecDepth 20000 in
theorem gX9_stows_X9_puts : GoodIn wsX9_stows (wsV RX9 71 RX9 yX9_puts wsX9_puts) := goodIn_app (goodIn_of _ (by decide +kernel)) ggX9_stows_X9_puts
set_option maxRecDepth 20000 in
theorem ggX9_stows_X9_of : GoodIn wsX9_stows wsX9_of := goodIn_r _ [14, 1, 23, 24, 25, 26, 27, 28, 29, 30, 31, 32, 33, 34, 35] (by decide +kernel) (by decide +kernel)
set_option maxRecDepth 20000 in
theorem gX9_stows_X9_of : GoodIn wsX9_stows (wsV RX9 46 RX9 yX9_of wsX9_of) := goodIn_app (goodIn_of _ (by decide +kernel)) ggX9_stows_X9_of
set_option maxRecDepth 20000 in
theorem ggX9_stows_X9_way : GoodIn wsX9_stows wsX9_way := goodIn_r _ [18, 11, 12, 13, 5, 14, 1, 23, 24, 25, 26, 27, 28, 29, 30, 31, 32, 33, 34, 35] (by decide +kernel) (by decide +kernel)
set_option maxRecDepth 20000 in
theorem gX9_stows_X9_way : GoodIn wsX9_stows (wsV RX9 60 RX9 yX9_way wsX9_way) := goodIn_app (goodIn_of _ (by decide +kernel)) ggX9_stows_X9_way
set_option maxRecDepth 20000 in
theorem ggX9_stows_X9_notesTrip : GoodIn wsX9_stows wsX9_notesTrip := goodIn_r _ [22, 1, 23, 24, 25, 26, 27, 28, 29, 30, 31, 32, 33, 34, 35] (by decide +kernel) (by decide +kernel)
set_option maxRecDepth 20000 in
theorem gX9_stows_X9_notesTrip : GoodIn wsX9_stows (wsV RX9 67 RX9 yX9_notesTrip wsX9_notesTrip) := goodIn_app (goodIn_of _ (by decide +kernel)) ggX9_stows_X9_notesTrip
theorem dX9_stows_0 : decode cX9_stows 0 = .ok (.aload_n 0, 1) := by decide +kernel
theorem dX9_stows_1 : decode cX9_stows 1 = .ok (.getfield 7, 3) := by decide +kernel
theorem dX9_stows_4 : decode cX9_stows 4 = .ok (.iconst 1, 1) := by decide +kernel
theorem dX9_stows_5 : decode cX9_stows 5 = .ok (.iaload, 1) := by decide +kernel
theorem dX9_stows_6 : decode cX9_stows 6 = .ok (.istore_n 2, 1) := by decide +kernel
theorem dX9_stows_7 : decode cX9_stows 7 = .ok (.aload_n 0, 1) := by decide +kernel
theorem dX9_stows_8 : decode cX9_stows 8 = .ok (.iload_n 2, 1) := by decide +kernel
theorem dX9_stows_9 : decode cX9_stows 9 = .ok (.iload_n 1, 1) := by decide +kernel
theorem dX9_stows_10 : decode cX9_stows 10 = .ok (.invokevirtual 71, 3) := by decide +kernel
theorem dX9_stows_13 : decode cX9_stows 13 = .ok (.aload_n 0, 1) := by decide +kernel
theorem dX9_stows_14 : decode cX9_stows 14 = .ok (.getfield 7, 3) := by decide +kernel
theorem dX9_stows_17 : decode cX9_stows 17 = .ok (.iconst 1, 1) := by decide +kernel
theorem dX9_stows_18 : decode cX9_stows 18 = .ok (.iconst (-1), 1) := by decide +kernel
theorem dX9_stows_19 : decode cX9_stows 19 = .ok (.iastore, 1) := by decide +kernel
theorem dX9_stows_20 : decode cX9_stows 20 = .ok (.aload_n 0, 1) := by decide +kernel
theorem dX9_stows_21 : decode cX9_stows 21 = .ok (.getfield 7, 3) := by decide +kernel
theorem dX9_stows_24 : decode cX9_stows 24 = .ok (.iconst 2, 1) := by decide +kernel
theorem dX9_stows_25 : decode cX9_stows 25 = .ok (.aload_n 0, 1) := by decide +kernel
theorem dX9_stows_26 : decode cX9_stows 26 = .ok (.iload_n 2, 1) := by decide +kernel
theorem dX9_stows_27 : decode cX9_stows 27 = .ok (.iconst 2, 1) := by decide +kernel
theorem dX9_stows_28 : decode cX9_stows 28 = .ok (.invokevirtual 46, 3) := by decide +kernel
theorem dX9_stows_31 : decode cX9_stows 31 = .ok (.iastore, 1) := by decide +kernel
theorem dX9_stows_32 : decode cX9_stows 32 = .ok (.aload_n 0, 1) := by decide +kernel
theorem dX9_stows_33 : decode cX9_stows 33 = .ok (.aload_n 0, 1) := by decide +kernel
theorem dX9_stows_34 : decode cX9_stows 34 = .ok (.iload_n 2, 1) := by decide +kernel
theorem dX9_stows_35 : decode cX9_stows 35 = .ok (.invokevirtual 60, 3) := by decide +kernel
theorem dX9_stows_38 : decode cX9_stows 38 = .ok (.iconst 0, 1) := by decide +kernel
theorem dX9_stows_39 : decode cX9_stows 39 = .ok (.invokevirtual 67, 3) := by decide +kernel
theorem dX9_stows_42 : decode cX9_stows 42 = .ok (.aload_n 0, 1) := by decide +kernel
theorem dX9_stows_43 : decode cX9_stows 43 = .ok (.iload_n 2, 1) := by decide +kernel
theorem dX9_stows_44 : decode cX9_stows 44 = .ok (.invokevirtual 60, 3) := by decide +kernel
theorem dX9_stows_47 : decode cX9_stows 47 = .ok (.ireturn, 1) := by decide +kernel
set_option maxRecDepth 20000 in
theorem ggX9_stowPlace_X9_of : GoodIn wsX9_stowPlace wsX9_of := goodIn_r _ [6, 1, 22, 23, 24, 25, 26, 27, 28, 29, 30, 31, 32, 33, 34] (by decide +kernel) (by decide +kernel)
set_option maxRecDepth 20000 in
theorem gX9_stowPlace_X9_of : GoodIn wsX9_stowPlace (wsV RX9 46 RX9 yX9_of wsX9_of) := goodIn_app (goodIn_of _ (by decide +kernel)) ggX9_stowPlace_X9_of
set_option maxRecDepth 20000 in
theorem ggX9_stowPlace_X9_place : GoodIn wsX9_stowPlace wsX9_place := goodIn_r _ [10, 11, 12, 13, 5, 14, 15, 16, 17, 18, 1, 2, 3, 4, 6, 19, 20, 21, 22, 23, 24, 25, 26, 27, 28, 29, 30, 31, 32, 33, 34] (by decide +kernel) (by decide +kernel)
set_option maxRecDepth 20000 in
theorem gX9_stowPlace_X9_place : GoodIn wsX9_stowPlace (wsV RX9 74 RX9 yX9_place wsX9_place) := goodIn_app (goodIn_of _ (by decide +kernel)) ggX9_stowPlace_X9_place
theorem dX9_stowPlace_0 : decode cX9_stowPlace 0 = .ok (.aload_n 0, 1) := by decide +kernel
theorem dX9_stowPlace_1 : decode cX9_stowPlace 1 = .ok (.getfield 7, 3) := by decide +kernel
theorem dX9_stowPlace_4 : decode cX9_stowPlace 4 = .ok (.iconst 1, 1) := by decide +kernel
theorem dX9_stowPlace_5 : decode cX9_stowPlace 5 = .ok (.iaload, 1) := by decide +kernel
theorem dX9_stowPlace_6 : decode cX9_stowPlace 6 = .ok (.istore_n 1, 1) := by decide +kernel
theorem dX9_stowPlace_7 : decode cX9_stowPlace 7 = .ok (.aload_n 0, 1) := by decide +kernel
theorem dX9_stowPlace_8 : decode cX9_stowPlace 8 = .ok (.getfield 7, 3) := by decide +kernel
theorem dX9_stowPlace_11 : decode cX9_stowPlace 11 = .ok (.iconst 3, 1) := by decide +kernel
theorem dX9_stowPlace_12 : decode cX9_stowPlace 12 = .ok (.iaload, 1) := by decide +kernel
theorem dX9_stowPlace_13 : decode cX9_stowPlace 13 = .ok (.iconst 1, 1) := by decide +kernel
theorem dX9_stowPlace_14 : decode cX9_stowPlace 14 = .ok (.if_icmp .ne 22, 3) := by decide +kernel
theorem dX9_stowPlace_17 : decode cX9_stowPlace 17 = .ok (.bipush 20, 2) := by decide +kernel
theorem dX9_stowPlace_19 : decode cX9_stowPlace 19 = .ok (.aload_n 0, 1) := by decide +kernel
theorem dX9_stowPlace_20 : decode cX9_stowPlace 20 = .ok (.iload_n 1, 1) := by decide +kernel
theorem dX9_stowPlace_21 : decode cX9_stowPlace 21 = .ok (.iconst 1, 1) := by decide +kernel
theorem dX9_stowPlace_22 : decode cX9_stowPlace 22 = .ok (.invokevirtual 46, 3) := by decide +kernel
theorem dX9_stowPlace_25 : decode cX9_stowPlace 25 = .ok (.imul, 1) := by decide +kernel
theorem dX9_stowPlace_26 : decode cX9_stowPlace 26 = .ok (.aload_n 0, 1) := by decide +kernel
theorem dX9_stowPlace_27 : decode cX9_stowPlace 27 = .ok (.iload_n 1, 1) := by decide +kernel
theorem dX9_stowPlace_28 : decode cX9_stowPlace 28 = .ok (.iconst 2, 1) := by decide +kernel
theorem dX9_stowPlace_29 : decode cX9_stowPlace 29 = .ok (.invokevirtual 46, 3) := by decide +kernel
theorem dX9_stowPlace_32 : decode cX9_stowPlace 32 = .ok (.iadd, 1) := by decide +kernel
theorem dX9_stowPlace_33 : decode cX9_stowPlace 33 = .ok (.goto 13, 3) := by decide +kernel
theorem dX9_stowPlace_36 : decode cX9_stowPlace 36 = .ok (.aload_n 0, 1) := by decide +kernel
theorem dX9_stowPlace_37 : decode cX9_stowPlace 37 = .ok (.aload_n 0, 1) := by decide +kernel
theorem dX9_stowPlace_38 : decode cX9_stowPlace 38 = .ok (.iload_n 1, 1) := by decide +kernel
theorem dX9_stowPlace_39 : decode cX9_stowPlace 39 = .ok (.iconst 0, 1) := by decide +kernel
theorem dX9_stowPlace_40 : decode cX9_stowPlace 40 = .ok (.invokevirtual 46, 3) := by decide +kernel
theorem dX9_stowPlace_43 : decode cX9_stowPlace 43 = .ok (.invokevirtual 74, 3) := by decide +kernel
theorem dX9_stowPlace_46 : decode cX9_stowPlace 46 = .ok (.ireturn, 1) := by decide +kernel
set_option maxRecDepth 20000 in
theorem ggX9_isAhead_X9_of : GoodIn wsX9_isAhead wsX9_of := goodIn_r _ [5, 6, 7, 8, 9, 10, 11, 12, 13, 14, 15, 16, 17, 18, 19] (by decide +kernel) (by decide +kernel)
set_option maxRecDepth 20000 in
theorem gX9_isAhead_X9_of : GoodIn wsX9_isAhead (wsV RX9 46 RX9 yX9_of wsX9_of) := goodIn_app (goodIn_of _ (by decide +kernel)) ggX9_isAhead_X9_of
theorem dX9_isAhead_0 : decode cX9_isAhead 0 = .ok (.aload_n 0, 1) := by decide +kernel
theorem dX9_isAhead_1 : decode cX9_isAhead 1 = .ok (.iload_n 2, 1) := by decide +kernel
theorem dX9_isAhead_2 : decode cX9_isAhead 2 = .ok (.iconst 3, 1) := by decide +kernel
theorem dX9_isAhead_3 : decode cX9_isAhead 3 = .ok (.invokevirtual 46, 3) := by decide +kernel
theorem dX9_isAhead_6 : decode cX9_isAhead 6 = .ok (.aload_n 0, 1) := by decide +kernel
theorem dX9_isAhead_7 : decode cX9_isAhead 7 = .ok (.iload_n 1, 1) := by decide +kernel
theorem dX9_isAhead_8 : decode cX9_isAhead 8 = .ok (.iconst 3, 1) := by decide +kernel
theorem dX9_isAhead_9 : decode cX9_isAhead 9 = .ok (.invokevirtual 46, 3) := by decide +kernel
theorem dX9_isAhead_12 : decode cX9_isAhead 12 = .ok (.isub, 1) := by decide +kernel
theorem dX9_isAhead_13 : decode cX9_isAhead 13 = .ok (.istore_n 3, 1) := by decide +kernel
theorem dX9_isAhead_14 : decode cX9_isAhead 14 = .ok (.iload_n 3, 1) := by decide +kernel
theorem dX9_isAhead_15 : decode cX9_isAhead 15 = .ok (.ifCond .lt 12, 3) := by decide +kernel
theorem dX9_isAhead_18 : decode cX9_isAhead 18 = .ok (.iload_n 3, 1) := by decide +kernel
theorem dX9_isAhead_19 : decode cX9_isAhead 19 = .ok (.ifCond .ne 12, 3) := by decide +kernel
theorem dX9_isAhead_22 : decode cX9_isAhead 22 = .ok (.iload_n 1, 1) := by decide +kernel
theorem dX9_isAhead_23 : decode cX9_isAhead 23 = .ok (.iload_n 2, 1) := by decide +kernel
theorem dX9_isAhead_24 : decode cX9_isAhead 24 = .ok (.if_icmp .ge 7, 3) := by decide +kernel
theorem dX9_isAhead_27 : decode cX9_isAhead 27 = .ok (.iconst 1, 1) := by decide +kernel
theorem dX9_isAhead_28 : decode cX9_isAhead 28 = .ok (.goto 4, 3) := by decide +kernel
theorem dX9_isAhead_31 : decode cX9_isAhead 31 = .ok (.iconst 0, 1) := by decide +kernel
theorem dX9_isAhead_32 : decode cX9_isAhead 32 = .ok (.ireturn, 1) := by decide +kernel
set_option maxRecDepth 20000 in
theorem ggX9_packs_X9_putAside : GoodIn wsX9_packs wsX9_putAside := goodIn_r _ [7, 2, 1, 39, 40, 41, 42, 43, 44, 45, 46, 47, 48, 49, 50, 51] (by decide +kernel) (by decide +kernel)
set_option maxRecDepth 20000 in
theorem gX9_packs_X9_putAside : GoodIn wsX9_packs (wsV RX9 77 RX9 yX9_putAside wsX9_putAside) := goodIn_app (goodIn_of _ (by decide +kernel)) ggX9_packs_X9_putAside
set_option maxRecDepth 20000 in
theorem ggX9_packs_X9_lay : GoodIn wsX9_packs wsX9_lay := goodIn_r _ [11, 1, 39, 40, 41, 42, 43, 44, 45, 46, 47, 48, 49, 50, 51] (by decide +kernel) (by decide +kernel)
set_option maxRecDepth 20000 in
theorem gX9_packs_X9_lay : GoodIn wsX9_packs (wsV RX9 56 RX9 yX9_lay wsX9_lay) := goodIn_app (goodIn_of _ (by decide +kernel)) ggX9_packs_X9_lay
set_option maxRecDepth 20000 in
theorem ggX9_packs_X9_isAhead : GoodIn wsX9_packs wsX9_isAhead := goodIn_r _ [15, 16, 17, 18, 6, 19, 1, 39, 40, 41, 42, 43, 44, 45, 46, 47, 48, 49, 50, 51] (by decide +kernel) (by decide +kernel)
set_option maxRecDepth 20000 in
theorem gX9_packs_X9_isAhead : GoodIn wsX9_packs (wsV RX9 80 RX9 yX9_isAhead wsX9_isAhead) := goodIn_app (goodIn_of _ (by decide +kernel)) ggX9_packs_X9_isAhead
set_option maxRecDepth 20000 in
theorem ggX9_packs_X9_of : GoodIn wsX9_packs wsX9_of := goodIn_r _ [19, 1, 39, 40, 41, 42, 43, 44, 45, 46, 47, 48, 49, 50, 51] (by decide +kernel) (by decide +kernel)
set_option maxRecDepth 20000 in
theorem gX9_packs_X9_of : GoodIn wsX9_packs (wsV RX9 46 RX9 yX9_of wsX9_of) := goodIn_app (goodIn_of _ (by decide +kernel)) ggX9_packs_X9_of
set_option maxRecDepth 20000 in
theorem ggX9_packs_X9_place : GoodIn wsX9_packs wsX9_place := goodIn_r _ [23, 24, 25, 26, 6, 27, 28, 29, 30, 31, 1, 16, 17, 18, 19, 32, 33, 34, 39, 40, 41, 42, 43, 44, 45, 46, 47, 48, 49, 50, 51] (by decide +kernel) (by decide +kernel)
set_option maxRecDepth 20000 in
theorem gX9_packs_X9_place : GoodIn wsX9_packs (wsV RX9 74 RX9 yX9_place wsX9_place) := goodIn_app (goodIn_of _ (by decide +kernel)) ggX9_packs_X9_place
set_option maxRecDepth 20000 in
theorem ggX9_packs_X9_puts : GoodIn wsX9_packs wsX9_puts := goodIn_r _ [38, 8, 9, 10, 6, 11, 1, 39, 40, 41, 42, 43, 44, 45, 46, 47, 48, 49, 50, 51] (by decide +kernel) (by decide +kernel)
set_option maxRecDepth 20000 in
theorem gX9_packs_X9_puts : GoodIn wsX9_packs (wsV RX9 71 RX9 yX9_puts wsX9_puts) := goodIn_app (goodIn_of _ (by decide +kernel)) ggX9_packs_X9_puts
theorem dX9_packs_0 : decode cX9_packs 0 = .ok (.aload_n 0, 1) := by decide +kernel
theorem dX9_packs_1 : decode cX9_packs 1 = .ok (.invokevirtual 77, 3) := by decide +kernel
theorem dX9_packs_4 : decode cX9_packs 4 = .ok (.iconst 0, 1) := by decide +kernel
theorem dX9_packs_5 : decode cX9_packs 5 = .ok (.istore_n 1, 1) := by decide +kernel
theorem dX9_packs_6 : decode cX9_packs 6 = .ok (.iconst 1, 1) := by decide +kernel
theorem dX9_packs_7 : decode cX9_packs 7 = .ok (.istore_n 2, 1) := by decide +kernel
theorem dX9_packs_8 : decode cX9_packs 8 = .ok (.iconst 0, 1) := by decide +kernel
theorem dX9_packs_9 : decode cX9_packs 9 = .ok (.istore_n 3, 1) := by decide +kernel
theorem dX9_packs_10 : decode cX9_packs 10 = .ok (.iload_n 3, 1) := by decide +kernel
theorem dX9_packs_11 : decode cX9_packs 11 = .ok (.aload_n 0, 1) := by decide +kernel
theorem dX9_packs_12 : decode cX9_packs 12 = .ok (.getfield 7, 3) := by decide +kernel
theorem dX9_packs_15 : decode cX9_packs 15 = .ok (.iconst 0, 1) := by decide +kernel
theorem dX9_packs_16 : decode cX9_packs 16 = .ok (.iaload, 1) := by decide +kernel
theorem dX9_packs_17 : decode cX9_packs 17 = .ok (.if_icmp .ge 16, 3) := by decide +kernel
theorem dX9_packs_20 : decode cX9_packs 20 = .ok (.aload_n 0, 1) := by decide +kernel
theorem dX9_packs_21 : decode cX9_packs 21 = .ok (.iload_n 3, 1) := by decide +kernel
theorem dX9_packs_22 : decode cX9_packs 22 = .ok (.iconst 1, 1) := by decide +kernel
theorem dX9_packs_23 : decode cX9_packs 23 = .ok (.iconst 2, 1) := by decide +kernel
theorem dX9_packs_24 : decode cX9_packs 24 = .ok (.invokevirtual 56, 3) := by decide +kernel
theorem dX9_packs_27 : decode cX9_packs 27 = .ok (.iinc 3 1, 3) := by decide +kernel
theorem dX9_packs_30 : decode cX9_packs 30 = .ok (.goto (-20), 3) := by decide +kernel
theorem dX9_packs_33 : decode cX9_packs 33 = .ok (.iconst 0, 1) := by decide +kernel
theorem dX9_packs_34 : decode cX9_packs 34 = .ok (.istore_n 3, 1) := by decide +kernel
theorem dX9_packs_35 : decode cX9_packs 35 = .ok (.iload_n 3, 1) := by decide +kernel
theorem dX9_packs_36 : decode cX9_packs 36 = .ok (.aload_n 0, 1) := by decide +kernel
theorem dX9_packs_37 : decode cX9_packs 37 = .ok (.getfield 7, 3) := by decide +kernel
theorem dX9_packs_40 : decode cX9_packs 40 = .ok (.iconst 0, 1) := by decide +kernel
theorem dX9_packs_41 : decode cX9_packs 41 = .ok (.iaload, 1) := by decide +kernel
theorem dX9_packs_42 : decode cX9_packs 42 = .ok (.if_icmp .ge 176, 3) := by decide +kernel
theorem dX9_packs_45 : decode cX9_packs 45 = .ok (.iload_n 2, 1) := by decide +kernel
theorem dX9_packs_46 : decode cX9_packs 46 = .ok (.ifCond .eq 172, 3) := by decide +kernel
theorem dX9_packs_49 : decode cX9_packs 49 = .ok (.iconst 0, 1) := by decide +kernel
theorem dX9_packs_50 : decode cX9_packs 50 = .ok (.istore 4, 2) := by decide +kernel
theorem dX9_packs_52 : decode cX9_packs 52 = .ok (.iload 4, 2) := by decide +kernel
theorem dX9_packs_54 : decode cX9_packs 54 = .ok (.aload_n 0, 1) := by decide +kernel
theorem dX9_packs_55 : decode cX9_packs 55 = .ok (.getfield 7, 3) := by decide +kernel
theorem dX9_packs_58 : decode cX9_packs 58 = .ok (.iconst 0, 1) := by decide +kernel
theorem dX9_packs_59 : decode cX9_packs 59 = .ok (.iaload, 1) := by decide +kernel
theorem dX9_packs_60 : decode cX9_packs 60 = .ok (.if_icmp .ge 152, 3) := by decide +kernel
theorem dX9_packs_63 : decode cX9_packs 63 = .ok (.iconst 0, 1) := by decide +kernel
theorem dX9_packs_64 : decode cX9_packs 64 = .ok (.istore 5, 2) := by decide +kernel
theorem dX9_packs_66 : decode cX9_packs 66 = .ok (.iconst 0, 1) := by decide +kernel
theorem dX9_packs_67 : decode cX9_packs 67 = .ok (.istore 6, 2) := by decide +kernel
theorem dX9_packs_69 : decode cX9_packs 69 = .ok (.iload 6, 2) := by decide +kernel
theorem dX9_packs_71 : decode cX9_packs 71 = .ok (.aload_n 0, 1) := by decide +kernel
theorem dX9_packs_72 : decode cX9_packs 72 = .ok (.getfield 7, 3) := by decide +kernel
theorem dX9_packs_75 : decode cX9_packs 75 = .ok (.iconst 0, 1) := by decide +kernel
theorem dX9_packs_76 : decode cX9_packs 76 = .ok (.iaload, 1) := by decide +kernel
theorem dX9_packs_77 : decode cX9_packs 77 = .ok (.if_icmp .ge 37, 3) := by decide +kernel
theorem dX9_packs_80 : decode cX9_packs 80 = .ok (.iload 5, 2) := by decide +kernel
theorem dX9_packs_82 : decode cX9_packs 82 = .ok (.iload 6, 2) := by decide +kernel
theorem dX9_packs_84 : decode cX9_packs 84 = .ok (.iload 4, 2) := by decide +kernel
theorem dX9_packs_86 : decode cX9_packs 86 = .ok (.if_icmp .eq 18, 3) := by decide +kernel
theorem dX9_packs_89 : decode cX9_packs 89 = .ok (.aload_n 0, 1) := by decide +kernel
theorem dX9_packs_90 : decode cX9_packs 90 = .ok (.iload 6, 2) := by decide +kernel
theorem dX9_packs_92 : decode cX9_packs 92 = .ok (.iload 4, 2) := by decide +kernel
theorem dX9_packs_94 : decode cX9_packs 94 = .ok (.invokevirtual 80, 3) := by decide +kernel
theorem dX9_packs_97 : decode cX9_packs 97 = .ok (.ifCond .eq 7, 3) := by decide +kernel
theorem dX9_packs_100 : decode cX9_packs 100 = .ok (.iconst 1, 1) := by decide +kernel
theorem dX9_packs_101 : decode cX9_packs 101 = .ok (.goto 4, 3) := by decide +kernel
theorem dX9_packs_104 : decode cX9_packs 104 = .ok (.iconst 0, 1) := by decide +kernel
theorem dX9_packs_105 : decode cX9_packs 105 = .ok (.iadd, 1) := by decide +kernel
theorem dX9_packs_106 : decode cX9_packs 106 = .ok (.istore 5, 2) := by decide +kernel
theorem dX9_packs_108 : decode cX9_packs 108 = .ok (.iinc 6 1, 3) := by decide +kernel
theorem dX9_packs_111 : decode cX9_packs 111 = .ok (.goto (-42), 3) := by decide +kernel
theorem dX9_packs_114 : decode cX9_packs 114 = .ok (.iload 5, 2) := by decide +kernel
theorem dX9_packs_116 : decode cX9_packs 116 = .ok (.iload_n 3, 1) := by decide +kernel
theorem dX9_packs_117 : decode cX9_packs 117 = .ok (.if_icmp .ne 89, 3) := by decide +kernel
theorem dX9_packs_120 : decode cX9_packs 120 = .ok (.aload_n 0, 1) := by decide +kernel
theorem dX9_packs_121 : decode cX9_packs 121 = .ok (.aload_n 0, 1) := by decide +kernel
theorem dX9_packs_122 : decode cX9_packs 122 = .ok (.iload 4, 2) := by decide +kernel
theorem dX9_packs_124 : decode cX9_packs 124 = .ok (.iconst 0, 1) := by decide +kernel
theorem dX9_packs_125 : decode cX9_packs 125 = .ok (.invokevirtual 46, 3) := by decide +kernel
theorem dX9_packs_128 : decode cX9_packs 128 = .ok (.invokevirtual 74, 3) := by decide +kernel
theorem dX9_packs_131 : decode cX9_packs 131 = .ok (.istore 6, 2) := by decide +kernel
theorem dX9_packs_133 : decode cX9_packs 133 = .ok (.bipush 9, 2) := by decide +kernel
theorem dX9_packs_135 : decode cX9_packs 135 = .ok (.bipush 14, 2) := by decide +kernel
theorem dX9_packs_137 : decode cX9_packs 137 = .ok (.iload 4, 2) := by decide +kernel
theorem dX9_packs_139 : decode cX9_packs 139 = .ok (.imul, 1) := by decide +kernel
theorem dX9_packs_140 : decode cX9_packs 140 = .ok (.iadd, 1) := by decide +kernel
theorem dX9_packs_141 : decode cX9_packs 141 = .ok (.istore 7, 2) := by decide +kernel
theorem dX9_packs_143 : decode cX9_packs 143 = .ok (.iload_n 2, 1) := by decide +kernel
theorem dX9_packs_144 : decode cX9_packs 144 = .ok (.ifCond .eq 13, 3) := by decide +kernel
theorem dX9_packs_147 : decode cX9_packs 147 = .ok (.iload 6, 2) := by decide +kernel
theorem dX9_packs_149 : decode cX9_packs 149 = .ok (.iconst (-1), 1) := by decide +kernel
theorem dX9_packs_150 : decode cX9_packs 150 = .ok (.if_icmp .eq 7, 3) := by decide +kernel
theorem dX9_packs_153 : decode cX9_packs 153 = .ok (.iconst 1, 1) := by decide +kernel
theorem dX9_packs_154 : decode cX9_packs 154 = .ok (.goto 4, 3) := by decide +kernel
theorem dX9_packs_157 : decode cX9_packs 157 = .ok (.iconst 0, 1) := by decide +kernel
theorem dX9_packs_158 : decode cX9_packs 158 = .ok (.istore_n 2, 1) := by decide +kernel
theorem dX9_packs_159 : decode cX9_packs 159 = .ok (.iload_n 1, 1) := by decide +kernel
theorem dX9_packs_160 : decode cX9_packs 160 = .ok (.iload 6, 2) := by decide +kernel
theorem dX9_packs_162 : decode cX9_packs 162 = .ok (.bipush 20, 2) := by decide +kernel
theorem dX9_packs_164 : decode cX9_packs 164 = .ok (.aload_n 0, 1) := by decide +kernel
theorem dX9_packs_165 : decode cX9_packs 165 = .ok (.getfield 13, 3) := by decide +kernel
theorem dX9_packs_168 : decode cX9_packs 168 = .ok (.iload 7, 2) := by decide +kernel
theorem dX9_packs_170 : decode cX9_packs 170 = .ok (.iconst 1, 1) := by decide +kernel
theorem dX9_packs_171 : decode cX9_packs 171 = .ok (.iadd, 1) := by decide +kernel
theorem dX9_packs_172 : decode cX9_packs 172 = .ok (.iaload, 1) := by decide +kernel
theorem dX9_packs_173 : decode cX9_packs 173 = .ok (.imul, 1) := by decide +kernel
theorem dX9_packs_174 : decode cX9_packs 174 = .ok (.aload_n 0, 1) := by decide +kernel
theorem dX9_packs_175 : decode cX9_packs 175 = .ok (.getfield 13, 3) := by decide +kernel
theorem dX9_packs_178 : decode cX9_packs 178 = .ok (.iload 7, 2) := by decide +kernel
theorem dX9_packs_180 : decode cX9_packs 180 = .ok (.iconst 2, 1) := by decide +kernel
theorem dX9_packs_181 : decode cX9_packs 181 = .ok (.iadd, 1) := by decide +kernel
theorem dX9_packs_182 : decode cX9_packs 182 = .ok (.iaload, 1) := by decide +kernel
theorem dX9_packs_183 : decode cX9_packs 183 = .ok (.iadd, 1) := by decide +kernel
theorem dX9_packs_184 : decode cX9_packs 184 = .ok (.if_icmp .ne 7, 3) := by decide +kernel
theorem dX9_packs_187 : decode cX9_packs 187 = .ok (.iconst 0, 1) := by decide +kernel
theorem dX9_packs_188 : decode cX9_packs 188 = .ok (.goto 4, 3) := by decide +kernel
theorem dX9_packs_191 : decode cX9_packs 191 = .ok (.iconst 1, 1) := by decide +kernel
theorem dX9_packs_192 : decode cX9_packs 192 = .ok (.iadd, 1) := by decide +kernel
theorem dX9_packs_193 : decode cX9_packs 193 = .ok (.istore_n 1, 1) := by decide +kernel
theorem dX9_packs_194 : decode cX9_packs 194 = .ok (.iload_n 2, 1) := by decide +kernel
theorem dX9_packs_195 : decode cX9_packs 195 = .ok (.ifCond .eq 11, 3) := by decide +kernel
theorem dX9_packs_198 : decode cX9_packs 198 = .ok (.aload_n 0, 1) := by decide +kernel
theorem dX9_packs_199 : decode cX9_packs 199 = .ok (.iload 4, 2) := by decide +kernel
theorem dX9_packs_201 : decode cX9_packs 201 = .ok (.iload 6, 2) := by decide +kernel
theorem dX9_packs_203 : decode cX9_packs 203 = .ok (.invokevirtual 71, 3) := by decide +kernel
theorem dX9_packs_206 : decode cX9_packs 206 = .ok (.iinc 4 1, 3) := by decide +kernel
theorem dX9_packs_209 : decode cX9_packs 209 = .ok (.goto (-157), 3) := by decide +kernel
theorem dX9_packs_212 : decode cX9_packs 212 = .ok (.iinc 3 1, 3) := by decide +kernel
theorem dX9_packs_215 : decode cX9_packs 215 = .ok (.goto (-180), 3) := by decide +kernel
theorem dX9_packs_218 : decode cX9_packs 218 = .ok (.iload_n 2, 1) := by decide +kernel
theorem dX9_packs_219 : decode cX9_packs 219 = .ok (.ifCond .eq 7, 3) := by decide +kernel
theorem dX9_packs_222 : decode cX9_packs 222 = .ok (.iload_n 1, 1) := by decide +kernel
theorem dX9_packs_223 : decode cX9_packs 223 = .ok (.goto 4, 3) := by decide +kernel
theorem dX9_packs_226 : decode cX9_packs 226 = .ok (.iconst (-1), 1) := by decide +kernel
theorem dX9_packs_227 : decode cX9_packs 227 = .ok (.ireturn, 1) := by decide +kernel
set_option maxRecDepth 20000 in
theorem ggX9_weight_X9_of : GoodIn wsX9_weight wsX9_of := goodIn_r _ [6, 1, 7, 8, 9, 10, 11, 12, 13, 14, 15, 16, 17, 18, 19] (by decide +kernel) (by decide +kernel)
set_option maxRecDepth 20000 in
theorem gX9_weight_X9_of : GoodIn wsX9_weight (wsV RX9 46 RX9 yX9_of wsX9_of) := goodIn_app (goodIn_of _ (by decide +kernel)) ggX9_weight_X9_of
theorem dX9_weight_0 : decode cX9_weight 0 = .ok (.iconst 0, 1) := by decide +kernel
theorem dX9_weight_1 : decode cX9_weight 1 = .ok (.istore_n 2, 1) := by decide +kernel
theorem dX9_weight_2 : decode cX9_weight 2 = .ok (.iconst 0, 1) := by decide +kernel
theorem dX9_weight_3 : decode cX9_weight 3 = .ok (.istore_n 3, 1) := by decide +kernel
theorem dX9_weight_4 : decode cX9_weight 4 = .ok (.iload_n 3, 1) := by decide +kernel
theorem dX9_weight_5 : decode cX9_weight 5 = .ok (.bipush 10, 2) := by decide +kernel
theorem dX9_weight_7 : decode cX9_weight 7 = .ok (.if_icmp .ge 31, 3) := by decide +kernel
theorem dX9_weight_10 : decode cX9_weight 10 = .ok (.iload_n 2, 1) := by decide +kernel
theorem dX9_weight_11 : decode cX9_weight 11 = .ok (.aload_n 0, 1) := by decide +kernel
theorem dX9_weight_12 : decode cX9_weight 12 = .ok (.iload_n 1, 1) := by decide +kernel
theorem dX9_weight_13 : decode cX9_weight 13 = .ok (.iconst 4, 1) := by decide +kernel
theorem dX9_weight_14 : decode cX9_weight 14 = .ok (.iload_n 3, 1) := by decide +kernel
theorem dX9_weight_15 : decode cX9_weight 15 = .ok (.iadd, 1) := by decide +kernel
theorem dX9_weight_16 : decode cX9_weight 16 = .ok (.invokevirtual 46, 3) := by decide +kernel
theorem dX9_weight_19 : decode cX9_weight 19 = .ok (.aload_n 0, 1) := by decide +kernel
theorem dX9_weight_20 : decode cX9_weight 20 = .ok (.getfield 7, 3) := by decide +kernel
theorem dX9_weight_23 : decode cX9_weight 23 = .ok (.sipush 177, 3) := by decide +kernel
theorem dX9_weight_26 : decode cX9_weight 26 = .ok (.iload_n 3, 1) := by decide +kernel
theorem dX9_weight_27 : decode cX9_weight 27 = .ok (.iadd, 1) := by decide +kernel
theorem dX9_weight_28 : decode cX9_weight 28 = .ok (.iaload, 1) := by decide +kernel
theorem dX9_weight_29 : decode cX9_weight 29 = .ok (.imul, 1) := by decide +kernel
theorem dX9_weight_30 : decode cX9_weight 30 = .ok (.iadd, 1) := by decide +kernel
theorem dX9_weight_31 : decode cX9_weight 31 = .ok (.istore_n 2, 1) := by decide +kernel
theorem dX9_weight_32 : decode cX9_weight 32 = .ok (.iinc 3 1, 3) := by decide +kernel
theorem dX9_weight_35 : decode cX9_weight 35 = .ok (.goto (-31), 3) := by decide +kernel
theorem dX9_weight_38 : decode cX9_weight 38 = .ok (.iload_n 2, 1) := by decide +kernel
theorem dX9_weight_39 : decode cX9_weight 39 = .ok (.ireturn, 1) := by decide +kernel
set_option maxRecDepth 20000 in
theorem ggX9_stock_X9_of : GoodIn wsX9_stock wsX9_of := goodIn_r _ [6, 1, 7, 8, 9, 10, 11, 12, 13, 14, 15, 16, 17, 18, 19] (by decide +kernel) (by decide +kernel)
set_option maxRecDepth 20000 in
theorem gX9_stock_X9_of : GoodIn wsX9_stock (wsV RX9 46 RX9 yX9_of wsX9_of) := goodIn_app (goodIn_of _ (by decide +kernel)) ggX9_stock_X9_of
theorem dX9_stock_0 : decode cX9_stock 0 = .ok (.iconst 0, 1) := by decide +kernel
theorem dX9_stock_1 : decode cX9_stock 1 = .ok (.istore_n 2, 1) := by decide +kernel
theorem dX9_stock_2 : decode cX9_stock 2 = .ok (.iconst 0, 1) := by decide +kernel
theorem dX9_stock_3 : decode cX9_stock 3 = .ok (.istore_n 3, 1) := by decide +kernel
theorem dX9_stock_4 : decode cX9_stock 4 = .ok (.iload_n 3, 1) := by decide +kernel
theorem dX9_stock_5 : decode cX9_stock 5 = .ok (.aload_n 0, 1) := by decide +kernel
theorem dX9_stock_6 : decode cX9_stock 6 = .ok (.getfield 7, 3) := by decide +kernel
theorem dX9_stock_9 : decode cX9_stock 9 = .ok (.iconst 0, 1) := by decide +kernel
theorem dX9_stock_10 : decode cX9_stock 10 = .ok (.iaload, 1) := by decide +kernel
theorem dX9_stock_11 : decode cX9_stock 11 = .ok (.if_icmp .ge 20, 3) := by decide +kernel
theorem dX9_stock_14 : decode cX9_stock 14 = .ok (.iload_n 2, 1) := by decide +kernel
theorem dX9_stock_15 : decode cX9_stock 15 = .ok (.aload_n 0, 1) := by decide +kernel
theorem dX9_stock_16 : decode cX9_stock 16 = .ok (.iload_n 3, 1) := by decide +kernel
theorem dX9_stock_17 : decode cX9_stock 17 = .ok (.iconst 4, 1) := by decide +kernel
theorem dX9_stock_18 : decode cX9_stock 18 = .ok (.iload_n 1, 1) := by decide +kernel
theorem dX9_stock_19 : decode cX9_stock 19 = .ok (.iadd, 1) := by decide +kernel
theorem dX9_stock_20 : decode cX9_stock 20 = .ok (.invokevirtual 46, 3) := by decide +kernel
theorem dX9_stock_23 : decode cX9_stock 23 = .ok (.iadd, 1) := by decide +kernel
theorem dX9_stock_24 : decode cX9_stock 24 = .ok (.istore_n 2, 1) := by decide +kernel
theorem dX9_stock_25 : decode cX9_stock 25 = .ok (.iinc 3 1, 3) := by decide +kernel
theorem dX9_stock_28 : decode cX9_stock 28 = .ok (.goto (-24), 3) := by decide +kernel
theorem dX9_stock_31 : decode cX9_stock 31 = .ok (.iload_n 2, 1) := by decide +kernel
theorem dX9_stock_32 : decode cX9_stock 32 = .ok (.ireturn, 1) := by decide +kernel
set_option maxRecDepth 20000 in
theorem ggX9_missing_X9_stock : GoodIn wsX9_missing wsX9_stock := goodIn_r _ [6, 1, 7, 8, 9, 5, 10, 11, 12, 13, 14, 15, 16, 17, 18, 19, 20, 21, 22, 23] (by decide +kernel) (by decide +kernel)
set_option maxRecDepth 20000 in
theorem gX9_missing_X9_stock : GoodIn wsX9_missing (wsV RX9 84 RX9 yX9_stock wsX9_stock) := goodIn_app (goodIn_of _ (by decide +kernel)) ggX9_missing_X9_stock
theorem dX9_missing_0 : decode cX9_missing 0 = .ok (.aload_n 0, 1) := by decide +kernel
theorem dX9_missing_1 : decode cX9_missing 1 = .ok (.getfield 7, 3) := by decide +kernel
theorem dX9_missing_4 : decode cX9_missing 4 = .ok (.sipush 187, 3) := by decide +kernel
theorem dX9_missing_7 : decode cX9_missing 7 = .ok (.iload_n 1, 1) := by decide +kernel
theorem dX9_missing_8 : decode cX9_missing 8 = .ok (.iadd, 1) := by decide +kernel
theorem dX9_missing_9 : decode cX9_missing 9 = .ok (.iaload, 1) := by decide +kernel
theorem dX9_missing_10 : decode cX9_missing 10 = .ok (.aload_n 0, 1) := by decide +kernel
theorem dX9_missing_11 : decode cX9_missing 11 = .ok (.iload_n 1, 1) := by decide +kernel
theorem dX9_missing_12 : decode cX9_missing 12 = .ok (.invokevirtual 84, 3) := by decide +kernel
theorem dX9_missing_15 : decode cX9_missing 15 = .ok (.isub, 1) := by decide +kernel
theorem dX9_missing_16 : decode cX9_missing 16 = .ok (.istore_n 2, 1) := by decide +kernel
theorem dX9_missing_17 : decode cX9_missing 17 = .ok (.iload_n 2, 1) := by decide +kernel
theorem dX9_missing_18 : decode cX9_missing 18 = .ok (.ifCond .le 7, 3) := by decide +kernel
theorem dX9_missing_21 : decode cX9_missing 21 = .ok (.iload_n 2, 1) := by decide +kernel
theorem dX9_missing_22 : decode cX9_missing 22 = .ok (.goto 4, 3) := by decide +kernel
theorem dX9_missing_25 : decode cX9_missing 25 = .ok (.iconst 0, 1) := by decide +kernel
theorem dX9_missing_26 : decode cX9_missing 26 = .ok (.ireturn, 1) := by decide +kernel
theorem dX9_wants_0 : decode cX9_wants 0 = .ok (.aload_n 0, 1) := by decide +kernel
theorem dX9_wants_1 : decode cX9_wants 1 = .ok (.getfield 7, 3) := by decide +kernel
theorem dX9_wants_4 : decode cX9_wants 4 = .ok (.sipush 223, 3) := by decide +kernel
theorem dX9_wants_7 : decode cX9_wants 7 = .ok (.bipush 10, 2) := by decide +kernel
theorem dX9_wants_9 : decode cX9_wants 9 = .ok (.iload_n 1, 1) := by decide +kernel
theorem dX9_wants_10 : decode cX9_wants 10 = .ok (.imul, 1) := by decide +kernel
theorem dX9_wants_11 : decode cX9_wants 11 = .ok (.iadd, 1) := by decide +kernel
theorem dX9_wants_12 : decode cX9_wants 12 = .ok (.iload_n 2, 1) := by decide +kernel
theorem dX9_wants_13 : decode cX9_wants 13 = .ok (.iadd, 1) := by decide +kernel
theorem dX9_wants_14 : decode cX9_wants 14 = .ok (.iaload, 1) := by decide +kernel
theorem dX9_wants_15 : decode cX9_wants 15 = .ok (.ireturn, 1) := by decide +kernel
set_option maxRecDepth 20000 in
theorem ggX9_canBe_X9_wants : GoodIn wsX9_canBe wsX9_wants := goodIn_r _ [5, 6, 15, 16, 17, 18, 19, 20, 21, 22, 23, 24, 25, 26, 27] (by decide +kernel) (by decide +kernel)
set_option maxRecDepth 20000 in
theorem gX9_canBe_X9_wants : GoodIn wsX9_canBe (wsV RX9 87 RX9 yX9_wants wsX9_wants) := goodIn_app (goodIn_of _ (by decide +kernel)) ggX9_canBe_X9_wants
set_option maxRecDepth 20000 in
theorem ggX9_canBe_X9_stock : GoodIn wsX9_canBe wsX9_stock := goodIn_r _ [10, 6, 11, 12, 13, 4, 14, 15, 16, 17, 18, 19, 20, 21, 22, 23, 24, 25, 26, 27] (by decide +kernel) (by decide +kernel)
set_option maxRecDepth 20000 in
theorem gX9_canBe_X9_stock : GoodIn wsX9_canBe (wsV RX9 84 RX9 yX9_stock wsX9_stock) := goodIn_app (goodIn_of _ (by decide +kernel)) ggX9_canBe_X9_stock
theorem dX9_canBe_0 : decode cX9_canBe 0 = .ok (.iconst 1, 1) := by decide +kernel
theorem dX9_canBe_1 : decode cX9_canBe 1 = .ok (.istore_n 2, 1) := by decide +kernel
theorem dX9_canBe_2 : decode cX9_canBe 2 = .ok (.iconst 0, 1) := by decide +kernel
theorem dX9_canBe_3 : decode cX9_canBe 3 = .ok (.istore_n 3, 1) := by decide +kernel
theorem dX9_canBe_4 : decode cX9_canBe 4 = .ok (.iload_n 3, 1) := by decide +kernel
theorem dX9_canBe_5 : decode cX9_canBe 5 = .ok (.bipush 10, 2) := by decide +kernel
theorem dX9_canBe_7 : decode cX9_canBe 7 = .ok (.if_icmp .ge 33, 3) := by decide +kernel
theorem dX9_canBe_10 : decode cX9_canBe 10 = .ok (.iload_n 2, 1) := by decide +kernel
theorem dX9_canBe_11 : decode cX9_canBe 11 = .ok (.ifCond .eq 21, 3) := by decide +kernel
theorem dX9_canBe_14 : decode cX9_canBe 14 = .ok (.aload_n 0, 1) := by decide +kernel
theorem dX9_canBe_15 : decode cX9_canBe 15 = .ok (.iload_n 1, 1) := by decide +kernel
theorem dX9_canBe_16 : decode cX9_canBe 16 = .ok (.iload_n 3, 1) := by decide +kernel
theorem dX9_canBe_17 : decode cX9_canBe 17 = .ok (.invokevirtual 87, 3) := by decide +kernel
theorem dX9_canBe_20 : decode cX9_canBe 20 = .ok (.aload_n 0, 1) := by decide +kernel
theorem dX9_canBe_21 : decode cX9_canBe 21 = .ok (.iload_n 3, 1) := by decide +kernel
theorem dX9_canBe_22 : decode cX9_canBe 22 = .ok (.invokevirtual 84, 3) := by decide +kernel
theorem dX9_canBe_25 : decode cX9_canBe 25 = .ok (.if_icmp .gt 7, 3) := by decide +kernel
theorem dX9_canBe_28 : decode cX9_canBe 28 = .ok (.iconst 1, 1) := by decide +kernel
theorem dX9_canBe_29 : decode cX9_canBe 29 = .ok (.goto 4, 3) := by decide +kernel
theorem dX9_canBe_32 : decode cX9_canBe 32 = .ok (.iconst 0, 1) := by decide +kernel
theorem dX9_canBe_33 : decode cX9_canBe 33 = .ok (.istore_n 2, 1) := by decide +kernel
theorem dX9_canBe_34 : decode cX9_canBe 34 = .ok (.iinc 3 1, 3) := by decide +kernel
theorem dX9_canBe_37 : decode cX9_canBe 37 = .ok (.goto (-33), 3) := by decide +kernel
theorem dX9_canBe_40 : decode cX9_canBe 40 = .ok (.iload_n 2, 1) := by decide +kernel
theorem dX9_canBe_41 : decode cX9_canBe 41 = .ok (.ireturn, 1) := by decide +kernel
theorem dX9_bits_0 : decode cX9_bits 0 = .ok (.iconst 0, 1) := by decide +kernel
theorem dX9_bits_1 : decode cX9_bits 1 = .ok (.istore_n 1, 1) := by decide +kernel
theorem dX9_bits_2 : decode cX9_bits 2 = .ok (.iconst 0, 1) := by decide +kernel
theorem dX9_bits_3 : decode cX9_bits 3 = .ok (.istore_n 2, 1) := by decide +kernel
theorem dX9_bits_4 : decode cX9_bits 4 = .ok (.iload_n 2, 1) := by decide +kernel
theorem dX9_bits_5 : decode cX9_bits 5 = .ok (.bipush 12, 2) := by decide +kernel
theorem dX9_bits_7 : decode cX9_bits 7 = .ok (.if_icmp .ge 17, 3) := by decide +kernel
theorem dX9_bits_10 : decode cX9_bits 10 = .ok (.iload_n 1, 1) := by decide +kernel
theorem dX9_bits_11 : decode cX9_bits 11 = .ok (.iload_n 0, 1) := by decide +kernel
theorem dX9_bits_12 : decode cX9_bits 12 = .ok (.iload_n 2, 1) := by decide +kernel
theorem dX9_bits_13 : decode cX9_bits 13 = .ok (.ishr, 1) := by decide +kernel
theorem dX9_bits_14 : decode cX9_bits 14 = .ok (.iconst 1, 1) := by decide +kernel
theorem dX9_bits_15 : decode cX9_bits 15 = .ok (.iand, 1) := by decide +kernel
theorem dX9_bits_16 : decode cX9_bits 16 = .ok (.iadd, 1) := by decide +kernel
theorem dX9_bits_17 : decode cX9_bits 17 = .ok (.istore_n 1, 1) := by decide +kernel
theorem dX9_bits_18 : decode cX9_bits 18 = .ok (.iinc 2 1, 3) := by decide +kernel
theorem dX9_bits_21 : decode cX9_bits 21 = .ok (.goto (-17), 3) := by decide +kernel
theorem dX9_bits_24 : decode cX9_bits 24 = .ok (.iload_n 1, 1) := by decide +kernel
theorem dX9_bits_25 : decode cX9_bits 25 = .ok (.ireturn, 1) := by decide +kernel
set_option maxRecDepth 20000 in
theorem ggX9_canSet_X9_of : GoodIn wsX9_canSet wsX9_of := goodIn_r _ [6, 1, 11, 12, 13, 14, 15, 16, 17, 18, 19, 20, 21, 22, 23] (by decide +kernel) (by decide +kernel)
set_option maxRecDepth 20000 in
theorem gX9_canSet_X9_of : GoodIn wsX9_canSet (wsV RX9 46 RX9 yX9_of wsX9_of) := goodIn_app (goodIn_of _ (by decide +kernel)) ggX9_canSet_X9_of
set_option maxRecDepth 20000 in
theorem ggX9_canSet_X9_wants : GoodIn wsX9_canSet wsX9_wants := goodIn_r _ [10, 1, 11, 12, 13, 14, 15, 16, 17, 18, 19, 20, 21, 22, 23] (by decide +kernel) (by decide +kernel)
set_option maxRecDepth 20000 in
theorem gX9_canSet_X9_wants : GoodIn wsX9_canSet (wsV RX9 87 RX9 yX9_wants wsX9_wants) := goodIn_app (goodIn_of _ (by decide +kernel)) ggX9_canSet_X9_wants
theorem dX9_canSet_0 : decode cX9_canSet 0 = .ok (.iconst 1, 1) := by decide +kernel
theorem dX9_canSet_1 : decode cX9_canSet 1 = .ok (.istore_n 3, 1) := by decide +kernel
theorem dX9_canSet_2 : decode cX9_canSet 2 = .ok (.iconst 0, 1) := by decide +kernel
theorem dX9_canSet_3 : decode cX9_canSet 3 = .ok (.istore 4, 2) := by decide +kernel
theorem dX9_canSet_5 : decode cX9_canSet 5 = .ok (.iload 4, 2) := by decide +kernel
theorem dX9_canSet_7 : decode cX9_canSet 7 = .ok (.bipush 10, 2) := by decide +kernel
theorem dX9_canSet_9 : decode cX9_canSet 9 = .ok (.if_icmp .ge 83, 3) := by decide +kernel
theorem dX9_canSet_12 : decode cX9_canSet 12 = .ok (.iload_n 3, 1) := by decide +kernel
theorem dX9_canSet_13 : decode cX9_canSet 13 = .ok (.ifCond .eq 79, 3) := by decide +kernel
theorem dX9_canSet_16 : decode cX9_canSet 16 = .ok (.iconst 0, 1) := by decide +kernel
theorem dX9_canSet_17 : decode cX9_canSet 17 = .ok (.istore 5, 2) := by decide +kernel
theorem dX9_canSet_19 : decode cX9_canSet 19 = .ok (.iconst 0, 1) := by decide +kernel
theorem dX9_canSet_20 : decode cX9_canSet 20 = .ok (.istore 6, 2) := by decide +kernel
theorem dX9_canSet_22 : decode cX9_canSet 22 = .ok (.iload 6, 2) := by decide +kernel
theorem dX9_canSet_24 : decode cX9_canSet 24 = .ok (.aload_n 0, 1) := by decide +kernel
theorem dX9_canSet_25 : decode cX9_canSet 25 = .ok (.getfield 7, 3) := by decide +kernel
theorem dX9_canSet_28 : decode cX9_canSet 28 = .ok (.iconst 0, 1) := by decide +kernel
theorem dX9_canSet_29 : decode cX9_canSet 29 = .ok (.iaload, 1) := by decide +kernel
theorem dX9_canSet_30 : decode cX9_canSet 30 = .ok (.if_icmp .ge 38, 3) := by decide +kernel
theorem dX9_canSet_33 : decode cX9_canSet 33 = .ok (.iload 5, 2) := by decide +kernel
theorem dX9_canSet_35 : decode cX9_canSet 35 = .ok (.iload_n 2, 1) := by decide +kernel
theorem dX9_canSet_36 : decode cX9_canSet 36 = .ok (.iload 6, 2) := by decide +kernel
theorem dX9_canSet_38 : decode cX9_canSet 38 = .ok (.ishr, 1) := by decide +kernel
theorem dX9_canSet_39 : decode cX9_canSet 39 = .ok (.iconst 1, 1) := by decide +kernel
theorem dX9_canSet_40 : decode cX9_canSet 40 = .ok (.iand, 1) := by decide +kernel
theorem dX9_canSet_41 : decode cX9_canSet 41 = .ok (.iconst 1, 1) := by decide +kernel
theorem dX9_canSet_42 : decode cX9_canSet 42 = .ok (.if_icmp .ne 16, 3) := by decide +kernel
theorem dX9_canSet_45 : decode cX9_canSet 45 = .ok (.aload_n 0, 1) := by decide +kernel
theorem dX9_canSet_46 : decode cX9_canSet 46 = .ok (.iload 6, 2) := by decide +kernel
theorem dX9_canSet_48 : decode cX9_canSet 48 = .ok (.iconst 4, 1) := by decide +kernel
theorem dX9_canSet_49 : decode cX9_canSet 49 = .ok (.iload 4, 2) := by decide +kernel
theorem dX9_canSet_51 : decode cX9_canSet 51 = .ok (.iadd, 1) := by decide +kernel
theorem dX9_canSet_52 : decode cX9_canSet 52 = .ok (.invokevirtual 46, 3) := by decide +kernel
theorem dX9_canSet_55 : decode cX9_canSet 55 = .ok (.goto 4, 3) := by decide +kernel
theorem dX9_canSet_58 : decode cX9_canSet 58 = .ok (.iconst 0, 1) := by decide +kernel
theorem dX9_canSet_59 : decode cX9_canSet 59 = .ok (.iadd, 1) := by decide +kernel
theorem dX9_canSet_60 : decode cX9_canSet 60 = .ok (.istore 5, 2) := by decide +kernel
theorem dX9_canSet_62 : decode cX9_canSet 62 = .ok (.iinc 6 1, 3) := by decide +kernel
theorem dX9_canSet_65 : decode cX9_canSet 65 = .ok (.goto (-43), 3) := by decide +kernel
theorem dX9_canSet_68 : decode cX9_canSet 68 = .ok (.aload_n 0, 1) := by decide +kernel
theorem dX9_canSet_69 : decode cX9_canSet 69 = .ok (.iload_n 1, 1) := by decide +kernel
theorem dX9_canSet_70 : decode cX9_canSet 70 = .ok (.iload 4, 2) := by decide +kernel
theorem dX9_canSet_72 : decode cX9_canSet 72 = .ok (.invokevirtual 87, 3) := by decide +kernel
theorem dX9_canSet_75 : decode cX9_canSet 75 = .ok (.iload 5, 2) := by decide +kernel
theorem dX9_canSet_77 : decode cX9_canSet 77 = .ok (.if_icmp .gt 7, 3) := by decide +kernel
theorem dX9_canSet_80 : decode cX9_canSet 80 = .ok (.iconst 1, 1) := by decide +kernel
theorem dX9_canSet_81 : decode cX9_canSet 81 = .ok (.goto 4, 3) := by decide +kernel
theorem dX9_canSet_84 : decode cX9_canSet 84 = .ok (.iconst 0, 1) := by decide +kernel
theorem dX9_canSet_85 : decode cX9_canSet 85 = .ok (.istore_n 3, 1) := by decide +kernel
theorem dX9_canSet_86 : decode cX9_canSet 86 = .ok (.iinc 4 1, 3) := by decide +kernel
theorem dX9_canSet_89 : decode cX9_canSet 89 = .ok (.goto (-84), 3) := by decide +kernel
theorem dX9_canSet_92 : decode cX9_canSet 92 = .ok (.iload_n 3, 1) := by decide +kernel
theorem dX9_canSet_93 : decode cX9_canSet 93 = .ok (.ireturn, 1) := by decide +kernel
set_option maxRecDepth 20000 in
theorem ggX9_chosen_X9_canBe : GoodIn wsX9_chosen wsX9_canBe := goodIn_r _ [6, 7, 8, 9, 5, 10, 1, 11, 12, 13, 14, 15, 16, 17, 18, 26, 27, 28, 29, 30, 31, 32, 33, 34, 35, 36, 37, 38] (by decide +kernel) (by decide +kernel)
set_option maxRecDepth 20000 in
theorem gX9_chosen_X9_canBe : GoodIn wsX9_chosen (wsV RX9 90 RX9 yX9_canBe wsX9_canBe) := goodIn_app (goodIn_of _ (by decide +kernel)) ggX9_chosen_X9_canBe
set_option maxRecDepth 20000 in
theorem ggX9_chosen_X9_bits : GoodIn wsX9_chosen wsX9_bits := goodIn_r _ [21] (by decide +kernel) (by decide +kernel)
set_option maxRecDepth 20000 in
theorem gX9_chosen_X9_bits : GoodIn wsX9_chosen (va_wsS RX9 94 yX9_bits wsX9_bits) := goodIn_app (goodIn_of _ (by decide +kernel)) ggX9_chosen_X9_bits
set_option maxRecDepth 20000 in
theorem ggX9_chosen_X9_canSet : GoodIn wsX9_chosen wsX9_canSet := goodIn_r _ [25, 1, 15, 16, 17, 5, 18, 7, 8, 9, 10, 26, 27, 28, 29, 30, 31, 32, 33, 34, 35, 36, 37, 38] (by decide +kernel) (by decide +kernel)
set_option maxRecDepth 20000 in
theorem gX9_chosen_X9_canSet : GoodIn wsX9_chosen (wsV RX9 97 RX9 yX9_canSet wsX9_canSet) := goodIn_app (goodIn_of _ (by decide +kernel)) ggX9_chosen_X9_canSet
theorem dX9_chosen_0 : decode cX9_chosen 0 = .ok (.iconst 0, 1) := by decide +kernel
theorem dX9_chosen_1 : decode cX9_chosen 1 = .ok (.istore_n 2, 1) := by decide +kernel
theorem dX9_chosen_2 : decode cX9_chosen 2 = .ok (.aload_n 0, 1) := by decide +kernel
theorem dX9_chosen_3 : decode cX9_chosen 3 = .ok (.iload_n 1, 1) := by decide +kernel
theorem dX9_chosen_4 : decode cX9_chosen 4 = .ok (.invokevirtual 90, 3) := by decide +kernel
theorem dX9_chosen_7 : decode cX9_chosen 7 = .ok (.ifCond .eq 8, 3) := by decide +kernel
theorem dX9_chosen_10 : decode cX9_chosen 10 = .ok (.bipush 13, 2) := by decide +kernel
theorem dX9_chosen_12 : decode cX9_chosen 12 = .ok (.goto 4, 3) := by decide +kernel
theorem dX9_chosen_15 : decode cX9_chosen 15 = .ok (.iconst 0, 1) := by decide +kernel
theorem dX9_chosen_16 : decode cX9_chosen 16 = .ok (.istore_n 3, 1) := by decide +kernel
theorem dX9_chosen_17 : decode cX9_chosen 17 = .ok (.iconst 1, 1) := by decide +kernel
theorem dX9_chosen_18 : decode cX9_chosen 18 = .ok (.istore 4, 2) := by decide +kernel
theorem dX9_chosen_20 : decode cX9_chosen 20 = .ok (.iload 4, 2) := by decide +kernel
theorem dX9_chosen_22 : decode cX9_chosen 22 = .ok (.iconst 1, 1) := by decide +kernel
theorem dX9_chosen_23 : decode cX9_chosen 23 = .ok (.aload_n 0, 1) := by decide +kernel
theorem dX9_chosen_24 : decode cX9_chosen 24 = .ok (.getfield 7, 3) := by decide +kernel
theorem dX9_chosen_27 : decode cX9_chosen 27 = .ok (.iconst 0, 1) := by decide +kernel
theorem dX9_chosen_28 : decode cX9_chosen 28 = .ok (.iaload, 1) := by decide +kernel
theorem dX9_chosen_29 : decode cX9_chosen 29 = .ok (.ishl, 1) := by decide +kernel
theorem dX9_chosen_30 : decode cX9_chosen 30 = .ok (.if_icmp .ge 42, 3) := by decide +kernel
theorem dX9_chosen_33 : decode cX9_chosen 33 = .ok (.iload_n 3, 1) := by decide +kernel
theorem dX9_chosen_34 : decode cX9_chosen 34 = .ok (.iconst 1, 1) := by decide +kernel
theorem dX9_chosen_35 : decode cX9_chosen 35 = .ok (.if_icmp .le 37, 3) := by decide +kernel
theorem dX9_chosen_38 : decode cX9_chosen 38 = .ok (.iload 4, 2) := by decide +kernel
theorem dX9_chosen_40 : decode cX9_chosen 40 = .ok (.invokestatic 94, 3) := by decide +kernel
theorem dX9_chosen_43 : decode cX9_chosen 43 = .ok (.iload_n 3, 1) := by decide +kernel
theorem dX9_chosen_44 : decode cX9_chosen 44 = .ok (.if_icmp .ge 22, 3) := by decide +kernel
theorem dX9_chosen_47 : decode cX9_chosen 47 = .ok (.aload_n 0, 1) := by decide +kernel
theorem dX9_chosen_48 : decode cX9_chosen 48 = .ok (.iload_n 1, 1) := by decide +kernel
theorem dX9_chosen_49 : decode cX9_chosen 49 = .ok (.iload 4, 2) := by decide +kernel
theorem dX9_chosen_51 : decode cX9_chosen 51 = .ok (.invokevirtual 97, 3) := by decide +kernel
theorem dX9_chosen_54 : decode cX9_chosen 54 = .ok (.ifCond .eq 12, 3) := by decide +kernel
theorem dX9_chosen_57 : decode cX9_chosen 57 = .ok (.iload 4, 2) := by decide +kernel
theorem dX9_chosen_59 : decode cX9_chosen 59 = .ok (.istore_n 2, 1) := by decide +kernel
theorem dX9_chosen_60 : decode cX9_chosen 60 = .ok (.iload 4, 2) := by decide +kernel
theorem dX9_chosen_62 : decode cX9_chosen 62 = .ok (.invokestatic 94, 3) := by decide +kernel
theorem dX9_chosen_65 : decode cX9_chosen 65 = .ok (.istore_n 3, 1) := by decide +kernel
theorem dX9_chosen_66 : decode cX9_chosen 66 = .ok (.iinc 4 1, 3) := by decide +kernel
theorem dX9_chosen_69 : decode cX9_chosen 69 = .ok (.goto (-49), 3) := by decide +kernel
theorem dX9_chosen_72 : decode cX9_chosen 72 = .ok (.iload_n 2, 1) := by decide +kernel
theorem dX9_chosen_73 : decode cX9_chosen 73 = .ok (.ireturn, 1) := by decide +kernel
set_option maxRecDepth 20000 in
theorem ggX9_wantedMany_X9_wants : GoodIn wsX9_wantedMany wsX9_wants := goodIn_r _ [5, 6, 7, 8, 9, 10, 11, 12, 13, 14, 15, 16, 17, 18, 19] (by decide +kernel) (by decide +kernel)
set_option maxRecDepth 20000 in
theorem gX9_wantedMany_X9_wants : GoodIn wsX9_wantedMany (wsV RX9 87 RX9 yX9_wants wsX9_wants) := goodIn_app (goodIn_of _ (by decide +kernel)) ggX9_wantedMany_X9_wants
theorem dX9_wantedMany_0 : decode cX9_wantedMany 0 = .ok (.iconst 0, 1) := by decide +kernel
theorem dX9_wantedMany_1 : decode cX9_wantedMany 1 = .ok (.istore_n 2, 1) := by decide +kernel
theorem dX9_wantedMany_2 : decode cX9_wantedMany 2 = .ok (.iconst 0, 1) := by decide +kernel
theorem dX9_wantedMany_3 : decode cX9_wantedMany 3 = .ok (.istore_n 3, 1) := by decide +kernel
theorem dX9_wantedMany_4 : decode cX9_wantedMany 4 = .ok (.iload_n 3, 1) := by decide +kernel
theorem dX9_wantedMany_5 : decode cX9_wantedMany 5 = .ok (.bipush 10, 2) := by decide +kernel
theorem dX9_wantedMany_7 : decode cX9_wantedMany 7 = .ok (.if_icmp .ge 18, 3) := by decide +kernel
theorem dX9_wantedMany_10 : decode cX9_wantedMany 10 = .ok (.iload_n 2, 1) := by decide +kernel
theorem dX9_wantedMany_11 : decode cX9_wantedMany 11 = .ok (.aload_n 0, 1) := by decide +kernel
theorem dX9_wantedMany_12 : decode cX9_wantedMany 12 = .ok (.iload_n 1, 1) := by decide +kernel
theorem dX9_wantedMany_13 : decode cX9_wantedMany 13 = .ok (.iload_n 3, 1) := by decide +kernel
theorem dX9_wantedMany_14 : decode cX9_wantedMany 14 = .ok (.invokevirtual 87, 3) := by decide +kernel
theorem dX9_wantedMany_17 : decode cX9_wantedMany 17 = .ok (.iadd, 1) := by decide +kernel
theorem dX9_wantedMany_18 : decode cX9_wantedMany 18 = .ok (.istore_n 2, 1) := by decide +kernel
theorem dX9_wantedMany_19 : decode cX9_wantedMany 19 = .ok (.iinc 3 1, 3) := by decide +kernel
theorem dX9_wantedMany_22 : decode cX9_wantedMany 22 = .ok (.goto (-18), 3) := by decide +kernel
theorem dX9_wantedMany_25 : decode cX9_wantedMany 25 = .ok (.iload_n 2, 1) := by decide +kernel
theorem dX9_wantedMany_26 : decode cX9_wantedMany 26 = .ok (.ireturn, 1) := by decide +kernel
theorem dX9_drops_0 : decode cX9_drops 0 = .ok (.aload_n 0, 1) := by decide +kernel
theorem dX9_drops_1 : decode cX9_drops 1 = .ok (.getfield 7, 3) := by decide +kernel
theorem dX9_drops_4 : decode cX9_drops 4 = .ok (.bipush 8, 2) := by decide +kernel
theorem dX9_drops_6 : decode cX9_drops 6 = .ok (.dup2, 1) := by decide +kernel
theorem dX9_drops_7 : decode cX9_drops 7 = .ok (.iaload, 1) := by decide +kernel
theorem dX9_drops_8 : decode cX9_drops 8 = .ok (.iconst 1, 1) := by decide +kernel
theorem dX9_drops_9 : decode cX9_drops 9 = .ok (.isub, 1) := by decide +kernel
theorem dX9_drops_10 : decode cX9_drops 10 = .ok (.iastore, 1) := by decide +kernel
theorem dX9_drops_11 : decode cX9_drops 11 = .ok (.bipush 10, 2) := by decide +kernel
theorem dX9_drops_13 : decode cX9_drops 13 = .ok (.iload_n 1, 1) := by decide +kernel
theorem dX9_drops_14 : decode cX9_drops 14 = .ok (.imul, 1) := by decide +kernel
theorem dX9_drops_15 : decode cX9_drops 15 = .ok (.istore_n 2, 1) := by decide +kernel
theorem dX9_drops_16 : decode cX9_drops 16 = .ok (.iload_n 2, 1) := by decide +kernel
theorem dX9_drops_17 : decode cX9_drops 17 = .ok (.bipush 10, 2) := by decide +kernel
theorem dX9_drops_19 : decode cX9_drops 19 = .ok (.aload_n 0, 1) := by decide +kernel
theorem dX9_drops_20 : decode cX9_drops 20 = .ok (.getfield 7, 3) := by decide +kernel
theorem dX9_drops_23 : decode cX9_drops 23 = .ok (.bipush 8, 2) := by decide +kernel
theorem dX9_drops_25 : decode cX9_drops 25 = .ok (.iaload, 1) := by decide +kernel
theorem dX9_drops_26 : decode cX9_drops 26 = .ok (.imul, 1) := by decide +kernel
theorem dX9_drops_27 : decode cX9_drops 27 = .ok (.if_icmp .ge 32, 3) := by decide +kernel
theorem dX9_drops_30 : decode cX9_drops 30 = .ok (.aload_n 0, 1) := by decide +kernel
theorem dX9_drops_31 : decode cX9_drops 31 = .ok (.getfield 7, 3) := by decide +kernel
theorem dX9_drops_34 : decode cX9_drops 34 = .ok (.sipush 223, 3) := by decide +kernel
theorem dX9_drops_37 : decode cX9_drops 37 = .ok (.iload_n 2, 1) := by decide +kernel
theorem dX9_drops_38 : decode cX9_drops 38 = .ok (.iadd, 1) := by decide +kernel
theorem dX9_drops_39 : decode cX9_drops 39 = .ok (.aload_n 0, 1) := by decide +kernel
theorem dX9_drops_40 : decode cX9_drops 40 = .ok (.getfield 7, 3) := by decide +kernel
theorem dX9_drops_43 : decode cX9_drops 43 = .ok (.sipush 223, 3) := by decide +kernel
theorem dX9_drops_46 : decode cX9_drops 46 = .ok (.iload_n 2, 1) := by decide +kernel
theorem dX9_drops_47 : decode cX9_drops 47 = .ok (.iadd, 1) := by decide +kernel
theorem dX9_drops_48 : decode cX9_drops 48 = .ok (.bipush 10, 2) := by decide +kernel
theorem dX9_drops_50 : decode cX9_drops 50 = .ok (.iadd, 1) := by decide +kernel
theorem dX9_drops_51 : decode cX9_drops 51 = .ok (.iaload, 1) := by decide +kernel
theorem dX9_drops_52 : decode cX9_drops 52 = .ok (.iastore, 1) := by decide +kernel
theorem dX9_drops_53 : decode cX9_drops 53 = .ok (.iinc 2 1, 3) := by decide +kernel
theorem dX9_drops_56 : decode cX9_drops 56 = .ok (.goto (-40), 3) := by decide +kernel
theorem dX9_drops_59 : decode cX9_drops 59 = .ok (.return_, 1) := by decide +kernel
set_option maxRecDepth 20000 in
theorem ggX9_gives_X9_of : GoodIn wsX9_gives wsX9_of := goodIn_r _ [7, 1, 12, 13, 14, 15, 16, 17, 18, 19, 20, 21, 22, 23, 24] (by decide +kernel) (by decide +kernel)
set_option maxRecDepth 20000 in
theorem gX9_gives_X9_of : GoodIn wsX9_gives (wsV RX9 46 RX9 yX9_of wsX9_of) := goodIn_app (goodIn_of _ (by decide +kernel)) ggX9_gives_X9_of
set_option maxRecDepth 20000 in
theorem ggX9_gives_X9_lay : GoodIn wsX9_gives wsX9_lay := goodIn_r _ [11, 1, 12, 13, 14, 15, 16, 17, 18, 19, 20, 21, 22, 23, 24] (by decide +kernel) (by decide +kernel)
set_option maxRecDepth 20000 in
theorem gX9_gives_X9_lay : GoodIn wsX9_gives (wsV RX9 56 RX9 yX9_lay wsX9_lay) := goodIn_app (goodIn_of _ (by decide +kernel)) ggX9_gives_X9_lay
theorem dX9_gives_0 : decode cX9_gives 0 = .ok (.aload_n 0, 1) := by decide +kernel
theorem dX9_gives_1 : decode cX9_gives 1 = .ok (.getfield 7, 3) := by decide +kernel
theorem dX9_gives_4 : decode cX9_gives 4 = .ok (.iconst 1, 1) := by decide +kernel
theorem dX9_gives_5 : decode cX9_gives 5 = .ok (.iaload, 1) := by decide +kernel
theorem dX9_gives_6 : decode cX9_gives 6 = .ok (.istore_n 1, 1) := by decide +kernel
theorem dX9_gives_7 : decode cX9_gives 7 = .ok (.iconst 0, 1) := by decide +kernel
theorem dX9_gives_8 : decode cX9_gives 8 = .ok (.istore_n 2, 1) := by decide +kernel
theorem dX9_gives_9 : decode cX9_gives 9 = .ok (.iload_n 2, 1) := by decide +kernel
theorem dX9_gives_10 : decode cX9_gives 10 = .ok (.bipush 10, 2) := by decide +kernel
theorem dX9_gives_12 : decode cX9_gives 12 = .ok (.if_icmp .ge 86, 3) := by decide +kernel
theorem dX9_gives_15 : decode cX9_gives 15 = .ok (.aload_n 0, 1) := by decide +kernel
theorem dX9_gives_16 : decode cX9_gives 16 = .ok (.iload_n 1, 1) := by decide +kernel
theorem dX9_gives_17 : decode cX9_gives 17 = .ok (.iconst 4, 1) := by decide +kernel
theorem dX9_gives_18 : decode cX9_gives 18 = .ok (.iload_n 2, 1) := by decide +kernel
theorem dX9_gives_19 : decode cX9_gives 19 = .ok (.iadd, 1) := by decide +kernel
theorem dX9_gives_20 : decode cX9_gives 20 = .ok (.invokevirtual 46, 3) := by decide +kernel
theorem dX9_gives_23 : decode cX9_gives 23 = .ok (.aload_n 0, 1) := by decide +kernel
theorem dX9_gives_24 : decode cX9_gives 24 = .ok (.getfield 32, 3) := by decide +kernel
theorem dX9_gives_27 : decode cX9_gives 27 = .ok (.iload_n 2, 1) := by decide +kernel
theorem dX9_gives_28 : decode cX9_gives 28 = .ok (.iaload, 1) := by decide +kernel
theorem dX9_gives_29 : decode cX9_gives 29 = .ok (.if_icmp .ge 14, 3) := by decide +kernel
theorem dX9_gives_32 : decode cX9_gives 32 = .ok (.aload_n 0, 1) := by decide +kernel
theorem dX9_gives_33 : decode cX9_gives 33 = .ok (.iload_n 1, 1) := by decide +kernel
theorem dX9_gives_34 : decode cX9_gives 34 = .ok (.iconst 4, 1) := by decide +kernel
theorem dX9_gives_35 : decode cX9_gives 35 = .ok (.iload_n 2, 1) := by decide +kernel
theorem dX9_gives_36 : decode cX9_gives 36 = .ok (.iadd, 1) := by decide +kernel
theorem dX9_gives_37 : decode cX9_gives 37 = .ok (.invokevirtual 46, 3) := by decide +kernel
theorem dX9_gives_40 : decode cX9_gives 40 = .ok (.goto 9, 3) := by decide +kernel
theorem dX9_gives_43 : decode cX9_gives 43 = .ok (.aload_n 0, 1) := by decide +kernel
theorem dX9_gives_44 : decode cX9_gives 44 = .ok (.getfield 32, 3) := by decide +kernel
theorem dX9_gives_47 : decode cX9_gives 47 = .ok (.iload_n 2, 1) := by decide +kernel
theorem dX9_gives_48 : decode cX9_gives 48 = .ok (.iaload, 1) := by decide +kernel
theorem dX9_gives_49 : decode cX9_gives 49 = .ok (.istore_n 3, 1) := by decide +kernel
theorem dX9_gives_50 : decode cX9_gives 50 = .ok (.aload_n 0, 1) := by decide +kernel
theorem dX9_gives_51 : decode cX9_gives 51 = .ok (.iload_n 1, 1) := by decide +kernel
theorem dX9_gives_52 : decode cX9_gives 52 = .ok (.iconst 4, 1) := by decide +kernel
theorem dX9_gives_53 : decode cX9_gives 53 = .ok (.iload_n 2, 1) := by decide +kernel
theorem dX9_gives_54 : decode cX9_gives 54 = .ok (.iadd, 1) := by decide +kernel
theorem dX9_gives_55 : decode cX9_gives 55 = .ok (.aload_n 0, 1) := by decide +kernel
theorem dX9_gives_56 : decode cX9_gives 56 = .ok (.iload_n 1, 1) := by decide +kernel
theorem dX9_gives_57 : decode cX9_gives 57 = .ok (.iconst 4, 1) := by decide +kernel
theorem dX9_gives_58 : decode cX9_gives 58 = .ok (.iload_n 2, 1) := by decide +kernel
theorem dX9_gives_59 : decode cX9_gives 59 = .ok (.iadd, 1) := by decide +kernel
theorem dX9_gives_60 : decode cX9_gives 60 = .ok (.invokevirtual 46, 3) := by decide +kernel
theorem dX9_gives_63 : decode cX9_gives 63 = .ok (.iload_n 3, 1) := by decide +kernel
theorem dX9_gives_64 : decode cX9_gives 64 = .ok (.isub, 1) := by decide +kernel
theorem dX9_gives_65 : decode cX9_gives 65 = .ok (.invokevirtual 56, 3) := by decide +kernel
theorem dX9_gives_68 : decode cX9_gives 68 = .ok (.aload_n 0, 1) := by decide +kernel
theorem dX9_gives_69 : decode cX9_gives 69 = .ok (.getfield 32, 3) := by decide +kernel
theorem dX9_gives_72 : decode cX9_gives 72 = .ok (.iload_n 2, 1) := by decide +kernel
theorem dX9_gives_73 : decode cX9_gives 73 = .ok (.dup2, 1) := by decide +kernel
theorem dX9_gives_74 : decode cX9_gives 74 = .ok (.iaload, 1) := by decide +kernel
theorem dX9_gives_75 : decode cX9_gives 75 = .ok (.iload_n 3, 1) := by decide +kernel
theorem dX9_gives_76 : decode cX9_gives 76 = .ok (.isub, 1) := by decide +kernel
theorem dX9_gives_77 : decode cX9_gives 77 = .ok (.iastore, 1) := by decide +kernel
theorem dX9_gives_78 : decode cX9_gives 78 = .ok (.aload_n 0, 1) := by decide +kernel
theorem dX9_gives_79 : decode cX9_gives 79 = .ok (.getfield 7, 3) := by decide +kernel
theorem dX9_gives_82 : decode cX9_gives 82 = .ok (.sipush 197, 3) := by decide +kernel
theorem dX9_gives_85 : decode cX9_gives 85 = .ok (.iload_n 2, 1) := by decide +kernel
theorem dX9_gives_86 : decode cX9_gives 86 = .ok (.iadd, 1) := by decide +kernel
theorem dX9_gives_87 : decode cX9_gives 87 = .ok (.dup2, 1) := by decide +kernel
theorem dX9_gives_88 : decode cX9_gives 88 = .ok (.iaload, 1) := by decide +kernel
theorem dX9_gives_89 : decode cX9_gives 89 = .ok (.iload_n 3, 1) := by decide +kernel
theorem dX9_gives_90 : decode cX9_gives 90 = .ok (.isub, 1) := by decide +kernel
theorem dX9_gives_91 : decode cX9_gives 91 = .ok (.iastore, 1) := by decide +kernel
theorem dX9_gives_92 : decode cX9_gives 92 = .ok (.iinc 2 1, 3) := by decide +kernel
theorem dX9_gives_95 : decode cX9_gives 95 = .ok (.goto (-86), 3) := by decide +kernel
theorem dX9_gives_98 : decode cX9_gives 98 = .ok (.return_, 1) := by decide +kernel
set_option maxRecDepth 20000 in
theorem ggX9_serves_X9_chosen : GoodIn wsX9_serves wsX9_chosen := goodIn_r _ [7, 2, 8, 9, 10, 6, 11, 12, 13, 14, 15, 16, 17, 18, 19, 20, 21, 22, 23, 24, 25, 26, 27, 28, 29, 30, 86, 87, 88, 89, 90, 91, 92, 93, 94, 95, 96, 97, 98] (by decide +kernel) (by decide +kernel)
set_option maxRecDepth 20000 in
theorem gX9_serves_X9_chosen : GoodIn wsX9_serves (wsV RX9 100 RX9 yX9_chosen wsX9_chosen) := goodIn_app (goodIn_of _ (by decide +kernel)) ggX9_serves_X9_chosen
set_option maxRecDepth 20000 in
theorem ggX9_serves_X9_wants : GoodIn wsX9_serves wsX9_wants := goodIn_r _ [15, 2, 86, 87, 88, 89, 90, 91, 92, 93, 94, 95, 96, 97, 98] (by decide +kernel) (by decide +kernel)
set_option maxRecDepth 20000 in
theorem gX9_serves_X9_wants : GoodIn wsX9_serves (wsV RX9 87 RX9 yX9_wants wsX9_wants) := goodIn_app (goodIn_of _ (by decide +kernel)) ggX9_serves_X9_wants
set_option maxRecDepth 20000 in
theorem ggX9_serves_X9_fetchesIt : GoodIn wsX9_serves wsX9_fetchesIt := goodIn_r _ [34, 2, 35, 36, 37, 6, 38, 20, 21, 22, 23, 39, 40, 41, 42, 43, 44, 45, 46, 47, 48, 49, 50, 86, 87, 88, 89, 90, 91, 92, 93, 94, 95, 96, 97, 98] (by decide +kernel) (by decide +kernel)
set_option maxRecDepth 20000 in
theorem gX9_serves_X9_fetchesIt : GoodIn wsX9_serves (wsV RX9 103 RX9 yX9_fetchesIt wsX9_fetchesIt) := goodIn_app (goodIn_of _ (by decide +kernel)) ggX9_serves_X9_fetchesIt
set_option maxRecDepth 20000 in
theorem ggX9_serves_X9_gives : GoodIn wsX9_serves wsX9_gives := goodIn_r _ [54, 2, 1, 20, 21, 22, 6, 23, 43, 44, 45, 46, 86, 87, 88, 89, 90, 91, 92, 93, 94, 95, 96, 97, 98] (by decide +kernel) (by decide +kernel)
set_option maxRecDepth 20000 in
theorem gX9_serves_X9_gives : GoodIn wsX9_serves (wsV RX9 106 RX9 yX9_gives wsX9_gives) := goodIn_app (goodIn_of _ (by decide +kernel)) ggX9_serves_X9_gives
set_option maxRecDepth 20000 in
theorem ggX9_serves_X9_stowPlace : GoodIn wsX9_serves wsX9_stowPlace := goodIn_r _ [58, 2, 20, 21, 22, 6, 23, 59, 60, 61, 62, 63, 64, 65, 66, 67, 68, 69, 70, 71, 72, 73, 86, 87, 88, 89, 90, 91, 92, 93, 94, 95, 96, 97, 98] (by decide +kernel) (by decide +kernel)
set_option maxRecDepth 20000 in
theorem gX9_serves_X9_stowPlace : GoodIn wsX9_serves (wsV RX9 109 RX9 yX9_stowPlace wsX9_stowPlace) := goodIn_app (goodIn_of _ (by decide +kernel)) ggX9_serves_X9_stowPlace
set_option maxRecDepth 20000 in
theorem ggX9_serves_X9_stows : GoodIn wsX9_serves wsX9_stows := goodIn_r _ [77, 2, 78, 79, 80, 6, 81, 43, 44, 45, 46, 20, 21, 22, 23, 39, 40, 41, 42, 47, 48, 49, 50, 86, 87, 88, 89, 90, 91, 92, 93, 94, 95, 96, 97, 98] (by decide +kernel) (by decide +kernel)
set_option maxRecDepth 20000 in
theorem gX9_serves_X9_stows : GoodIn wsX9_serves (wsV RX9 113 RX9 yX9_stows wsX9_stows) := goodIn_app (goodIn_of _ (by decide +kernel)) ggX9_serves_X9_stows
set_option maxRecDepth 20000 in
theorem ggX9_serves_X9_drops : GoodIn wsX9_serves wsX9_drops := goodIn_r _ [85, 2, 86, 87, 88, 89, 90, 91, 92, 93, 94, 95, 96, 97, 98] (by decide +kernel) (by decide +kernel)
set_option maxRecDepth 20000 in
theorem gX9_serves_X9_drops : GoodIn wsX9_serves (wsV RX9 116 RX9 yX9_drops wsX9_drops) := goodIn_app (goodIn_of _ (by decide +kernel)) ggX9_serves_X9_drops
theorem dX9_serves_0 : decode cX9_serves 0 = .ok (.iconst 0, 1) := by decide +kernel
theorem dX9_serves_1 : decode cX9_serves 1 = .ok (.istore_n 2, 1) := by decide +kernel
theorem dX9_serves_2 : decode cX9_serves 2 = .ok (.aload_n 0, 1) := by decide +kernel
theorem dX9_serves_3 : decode cX9_serves 3 = .ok (.iload_n 1, 1) := by decide +kernel
theorem dX9_serves_4 : decode cX9_serves 4 = .ok (.invokevirtual 100, 3) := by decide +kernel
theorem dX9_serves_7 : decode cX9_serves 7 = .ok (.istore_n 3, 1) := by decide +kernel
theorem dX9_serves_8 : decode cX9_serves 8 = .ok (.iconst 0, 1) := by decide +kernel
theorem dX9_serves_9 : decode cX9_serves 9 = .ok (.istore 4, 2) := by decide +kernel
theorem dX9_serves_11 : decode cX9_serves 11 = .ok (.iload 4, 2) := by decide +kernel
theorem dX9_serves_13 : decode cX9_serves 13 = .ok (.bipush 10, 2) := by decide +kernel
theorem dX9_serves_15 : decode cX9_serves 15 = .ok (.if_icmp .ge 23, 3) := by decide +kernel
theorem dX9_serves_18 : decode cX9_serves 18 = .ok (.aload_n 0, 1) := by decide +kernel
theorem dX9_serves_19 : decode cX9_serves 19 = .ok (.getfield 32, 3) := by decide +kernel
theorem dX9_serves_22 : decode cX9_serves 22 = .ok (.iload 4, 2) := by decide +kernel
theorem dX9_serves_24 : decode cX9_serves 24 = .ok (.aload_n 0, 1) := by decide +kernel
theorem dX9_serves_25 : decode cX9_serves 25 = .ok (.iload_n 1, 1) := by decide +kernel
theorem dX9_serves_26 : decode cX9_serves 26 = .ok (.iload 4, 2) := by decide +kernel
theorem dX9_serves_28 : decode cX9_serves 28 = .ok (.invokevirtual 87, 3) := by decide +kernel
theorem dX9_serves_31 : decode cX9_serves 31 = .ok (.iastore, 1) := by decide +kernel
theorem dX9_serves_32 : decode cX9_serves 32 = .ok (.iinc 4 1, 3) := by decide +kernel
theorem dX9_serves_35 : decode cX9_serves 35 = .ok (.goto (-24), 3) := by decide +kernel
theorem dX9_serves_38 : decode cX9_serves 38 = .ok (.iconst 0, 1) := by decide +kernel
theorem dX9_serves_39 : decode cX9_serves 39 = .ok (.istore 4, 2) := by decide +kernel
theorem dX9_serves_41 : decode cX9_serves 41 = .ok (.iload 4, 2) := by decide +kernel
theorem dX9_serves_43 : decode cX9_serves 43 = .ok (.aload_n 0, 1) := by decide +kernel
theorem dX9_serves_44 : decode cX9_serves 44 = .ok (.getfield 7, 3) := by decide +kernel
theorem dX9_serves_47 : decode cX9_serves 47 = .ok (.iconst 0, 1) := by decide +kernel
theorem dX9_serves_48 : decode cX9_serves 48 = .ok (.iaload, 1) := by decide +kernel
theorem dX9_serves_49 : decode cX9_serves 49 = .ok (.if_icmp .ge 43, 3) := by decide +kernel
theorem dX9_serves_52 : decode cX9_serves 52 = .ok (.iload_n 3, 1) := by decide +kernel
theorem dX9_serves_53 : decode cX9_serves 53 = .ok (.iload 4, 2) := by decide +kernel
theorem dX9_serves_55 : decode cX9_serves 55 = .ok (.ishr, 1) := by decide +kernel
theorem dX9_serves_56 : decode cX9_serves 56 = .ok (.iconst 1, 1) := by decide +kernel
theorem dX9_serves_57 : decode cX9_serves 57 = .ok (.iand, 1) := by decide +kernel
theorem dX9_serves_58 : decode cX9_serves 58 = .ok (.iconst 1, 1) := by decide +kernel
theorem dX9_serves_59 : decode cX9_serves 59 = .ok (.if_icmp .ne 27, 3) := by decide +kernel
theorem dX9_serves_62 : decode cX9_serves 62 = .ok (.iload_n 2, 1) := by decide +kernel
theorem dX9_serves_63 : decode cX9_serves 63 = .ok (.aload_n 0, 1) := by decide +kernel
theorem dX9_serves_64 : decode cX9_serves 64 = .ok (.iload 4, 2) := by decide +kernel
theorem dX9_serves_66 : decode cX9_serves 66 = .ok (.invokevirtual 103, 3) := by decide +kernel
theorem dX9_serves_69 : decode cX9_serves 69 = .ok (.iadd, 1) := by decide +kernel
theorem dX9_serves_70 : decode cX9_serves 70 = .ok (.istore_n 2, 1) := by decide +kernel
theorem dX9_serves_71 : decode cX9_serves 71 = .ok (.aload_n 0, 1) := by decide +kernel
theorem dX9_serves_72 : decode cX9_serves 72 = .ok (.invokevirtual 106, 3) := by decide +kernel
theorem dX9_serves_75 : decode cX9_serves 75 = .ok (.iload_n 2, 1) := by decide +kernel
theorem dX9_serves_76 : decode cX9_serves 76 = .ok (.aload_n 0, 1) := by decide +kernel
theorem dX9_serves_77 : decode cX9_serves 77 = .ok (.aload_n 0, 1) := by decide +kernel
theorem dX9_serves_78 : decode cX9_serves 78 = .ok (.invokevirtual 109, 3) := by decide +kernel
theorem dX9_serves_81 : decode cX9_serves 81 = .ok (.invokevirtual 113, 3) := by decide +kernel
theorem dX9_serves_84 : decode cX9_serves 84 = .ok (.iadd, 1) := by decide +kernel
theorem dX9_serves_85 : decode cX9_serves 85 = .ok (.istore_n 2, 1) := by decide +kernel
theorem dX9_serves_86 : decode cX9_serves 86 = .ok (.iinc 4 1, 3) := by decide +kernel
theorem dX9_serves_89 : decode cX9_serves 89 = .ok (.goto (-48), 3) := by decide +kernel
theorem dX9_serves_92 : decode cX9_serves 92 = .ok (.aload_n 0, 1) := by decide +kernel
theorem dX9_serves_93 : decode cX9_serves 93 = .ok (.iload_n 1, 1) := by decide +kernel
theorem dX9_serves_94 : decode cX9_serves 94 = .ok (.invokevirtual 116, 3) := by decide +kernel
theorem dX9_serves_97 : decode cX9_serves 97 = .ok (.aload_n 0, 1) := by decide +kernel
theorem dX9_serves_98 : decode cX9_serves 98 = .ok (.getfield 7, 3) := by decide +kernel
theorem dX9_serves_101 : decode cX9_serves 101 = .ok (.bipush 6, 2) := by decide +kernel
theorem dX9_serves_103 : decode cX9_serves 103 = .ok (.dup2, 1) := by decide +kernel
theorem dX9_serves_104 : decode cX9_serves 104 = .ok (.iaload, 1) := by decide +kernel
theorem dX9_serves_105 : decode cX9_serves 105 = .ok (.iconst 1, 1) := by decide +kernel
theorem dX9_serves_106 : decode cX9_serves 106 = .ok (.iadd, 1) := by decide +kernel
theorem dX9_serves_107 : decode cX9_serves 107 = .ok (.iastore, 1) := by decide +kernel
theorem dX9_serves_108 : decode cX9_serves 108 = .ok (.iload_n 2, 1) := by decide +kernel
theorem dX9_serves_109 : decode cX9_serves 109 = .ok (.ireturn, 1) := by decide +kernel
set_option maxRecDepth 20000 in
theorem ggX9_firstServable_X9_canBe : GoodIn wsX9_firstServable wsX9_canBe := goodIn_r _ [6, 7, 8, 9, 5, 10, 1, 11, 12, 13, 14, 15, 16, 17, 18, 19, 20, 21, 22, 23, 24, 25, 26, 27, 28, 29, 30, 31] (by decide +kernel) (by decide +kernel)
set_option maxRecDepth 20000 in
theorem gX9_firstServable_X9_canBe : GoodIn wsX9_firstServable (wsV RX9 90 RX9 yX9_canBe wsX9_canBe) := goodIn_app (goodIn_of _ (by decide +kernel)) ggX9_firstServable_X9_canBe
theorem dX9_firstServable_0 : decode cX9_firstServable 0 = .ok (.iconst (-1), 1) := by decide +kernel
theorem dX9_firstServable_1 : decode cX9_firstServable 1 = .ok (.istore_n 1, 1) := by decide +kernel
theorem dX9_firstServable_2 : decode cX9_firstServable 2 = .ok (.aload_n 0, 1) := by decide +kernel
theorem dX9_firstServable_3 : decode cX9_firstServable 3 = .ok (.getfield 7, 3) := by decide +kernel
theorem dX9_firstServable_6 : decode cX9_firstServable 6 = .ok (.bipush 8, 2) := by decide +kernel
theorem dX9_firstServable_8 : decode cX9_firstServable 8 = .ok (.iaload, 1) := by decide +kernel
theorem dX9_firstServable_9 : decode cX9_firstServable 9 = .ok (.iconst 1, 1) := by decide +kernel
theorem dX9_firstServable_10 : decode cX9_firstServable 10 = .ok (.isub, 1) := by decide +kernel
theorem dX9_firstServable_11 : decode cX9_firstServable 11 = .ok (.istore_n 2, 1) := by decide +kernel
theorem dX9_firstServable_12 : decode cX9_firstServable 12 = .ok (.iload_n 2, 1) := by decide +kernel
theorem dX9_firstServable_13 : decode cX9_firstServable 13 = .ok (.ifCond .lt 23, 3) := by decide +kernel
theorem dX9_firstServable_16 : decode cX9_firstServable 16 = .ok (.aload_n 0, 1) := by decide +kernel
theorem dX9_firstServable_17 : decode cX9_firstServable 17 = .ok (.iload_n 2, 1) := by decide +kernel
theorem dX9_firstServable_18 : decode cX9_firstServable 18 = .ok (.invokevirtual 90, 3) := by decide +kernel
theorem dX9_firstServable_21 : decode cX9_firstServable 21 = .ok (.ifCond .eq 7, 3) := by decide +kernel
theorem dX9_firstServable_24 : decode cX9_firstServable 24 = .ok (.iload_n 2, 1) := by decide +kernel
theorem dX9_firstServable_25 : decode cX9_firstServable 25 = .ok (.goto 4, 3) := by decide +kernel
theorem dX9_firstServable_28 : decode cX9_firstServable 28 = .ok (.iload_n 1, 1) := by decide +kernel
theorem dX9_firstServable_29 : decode cX9_firstServable 29 = .ok (.istore_n 1, 1) := by decide +kernel
theorem dX9_firstServable_30 : decode cX9_firstServable 30 = .ok (.iinc 2 (-1), 3) := by decide +kernel
theorem dX9_firstServable_33 : decode cX9_firstServable 33 = .ok (.goto (-21), 3) := by decide +kernel
theorem dX9_firstServable_36 : decode cX9_firstServable 36 = .ok (.iload_n 1, 1) := by decide +kernel
theorem dX9_firstServable_37 : decode cX9_firstServable 37 = .ok (.ireturn, 1) := by decide +kernel
set_option maxRecDepth 20000 in
theorem ggX9_servesAll_X9_firstServable : GoodIn wsX9_servesAll wsX9_firstServable := goodIn_r _ [5, 6, 7, 8, 9, 4, 10, 11, 12, 13, 14, 15, 16, 17, 18, 19, 20, 21, 22, 94, 95, 96, 97, 98, 99, 100, 101, 102, 103, 104, 105, 106] (by decide +kernel) (by decide +kernel)
set_option maxRecDepth 20000 in
theorem gX9_servesAll_X9_firstServable : GoodIn wsX9_servesAll (wsV RX9 120 RX9 yX9_firstServable wsX9_firstServable) := goodIn_app (goodIn_of _ (by decide +kernel)) ggX9_servesAll_X9_firstServable
set_option maxRecDepth 20000 in
theorem ggX9_servesAll_X9_serves : GoodIn wsX9_servesAll wsX9_serves := goodIn_r _ [26, 27, 6, 28, 29, 30, 4, 31, 7, 8, 9, 10, 11, 12, 13, 14, 15, 16, 17, 18, 19, 20, 21, 22, 32, 33, 34, 35, 36, 37, 38, 39, 40, 41, 42, 43, 44, 45, 46, 47, 48, 49, 50, 51, 52, 53, 54, 55, 56, 57, 58, 59, 60, 61, 62, 63, 64, 65, 66, 67, 68, 69, 70, 71, 72, 73, 74, 75, 76, 77, 78, 79, 80, 81, 82, 83, 84, 85, 86, 87, 88, 89, 90, 91, 92, 93, 94, 95, 96, 97, 98, 99, 100, 101, 102, 103, 104, 105, 106] (by decide +kernel) (by decide +kernel)
set_option maxRecDepth 20000 in
theorem gX9_servesAll_X9_serves : GoodIn wsX9_servesAll (wsV RX9 123 RX9 yX9_serves wsX9_serves) := goodIn_app (goodIn_of _ (by decide +kernel)) ggX9_servesAll_X9_serves
theorem dX9_servesAll_0 : decode cX9_servesAll 0 = .ok (.iconst 0, 1) := by decide +kernel
theorem dX9_servesAll_1 : decode cX9_servesAll 1 = .ok (.istore_n 1, 1) := by decide +kernel
theorem dX9_servesAll_2 : decode cX9_servesAll 2 = .ok (.aload_n 0, 1) := by decide +kernel
theorem dX9_servesAll_3 : decode cX9_servesAll 3 = .ok (.invokevirtual 120, 3) := by decide +kernel
theorem dX9_servesAll_6 : decode cX9_servesAll 6 = .ok (.istore_n 2, 1) := by decide +kernel
theorem dX9_servesAll_7 : decode cX9_servesAll 7 = .ok (.iload_n 2, 1) := by decide +kernel
theorem dX9_servesAll_8 : decode cX9_servesAll 8 = .ok (.iconst (-1), 1) := by decide +kernel
theorem dX9_servesAll_9 : decode cX9_servesAll 9 = .ok (.if_icmp .eq 19, 3) := by decide +kernel
theorem dX9_servesAll_12 : decode cX9_servesAll 12 = .ok (.iload_n 1, 1) := by decide +kernel
theorem dX9_servesAll_13 : decode cX9_servesAll 13 = .ok (.aload_n 0, 1) := by decide +kernel
theorem dX9_servesAll_14 : decode cX9_servesAll 14 = .ok (.iload_n 2, 1) := by decide +kernel
theorem dX9_servesAll_15 : decode cX9_servesAll 15 = .ok (.invokevirtual 123, 3) := by decide +kernel
theorem dX9_servesAll_18 : decode cX9_servesAll 18 = .ok (.iadd, 1) := by decide +kernel
theorem dX9_servesAll_19 : decode cX9_servesAll 19 = .ok (.istore_n 1, 1) := by decide +kernel
theorem dX9_servesAll_20 : decode cX9_servesAll 20 = .ok (.aload_n 0, 1) := by decide +kernel
theorem dX9_servesAll_21 : decode cX9_servesAll 21 = .ok (.invokevirtual 120, 3) := by decide +kernel
theorem dX9_servesAll_24 : decode cX9_servesAll 24 = .ok (.istore_n 2, 1) := by decide +kernel
theorem dX9_servesAll_25 : decode cX9_servesAll 25 = .ok (.goto (-18), 3) := by decide +kernel
theorem dX9_servesAll_28 : decode cX9_servesAll 28 = .ok (.iload_n 1, 1) := by decide +kernel
theorem dX9_servesAll_29 : decode cX9_servesAll 29 = .ok (.ireturn, 1) := by decide +kernel
set_option maxRecDepth 20000 in
theorem ggX9_servesAside_X9_putAside : GoodIn wsX9_servesAside wsX9_putAside := goodIn_r _ [5, 6, 7, 99, 100, 101, 102, 103, 104, 105, 106, 107, 108, 109, 110, 111] (by decide +kernel) (by decide +kernel)
set_option maxRecDepth 20000 in
theorem gX9_servesAside_X9_putAside : GoodIn wsX9_servesAside (wsV RX9 77 RX9 yX9_putAside wsX9_putAside) := goodIn_app (goodIn_of _ (by decide +kernel)) ggX9_servesAside_X9_putAside
set_option maxRecDepth 20000 in
theorem ggX9_servesAside_X9_serves : GoodIn wsX9_servesAside wsX9_serves := goodIn_r _ [11, 12, 7, 13, 14, 15, 4, 16, 17, 18, 19, 20, 21, 22, 23, 24, 25, 26, 27, 28, 29, 30, 31, 32, 33, 34, 35, 36, 37, 38, 39, 40, 41, 42, 43, 44, 45, 46, 47, 48, 49, 50, 51, 52, 53, 54, 55, 56, 57, 58, 59, 60, 61, 62, 63, 64, 65, 66, 67, 68, 69, 70, 71, 72, 73, 74, 75, 76, 77, 78, 79, 80, 81, 82, 83, 84, 85, 86, 87, 88, 89, 90, 91, 92, 93, 94, 99, 100, 101, 102, 103, 104, 105, 106, 107, 108, 109, 110, 111] (by decide +kernel) (by decide +kernel)
set_option maxRecDepth 20000 in
theorem gX9_servesAside_X9_serves : GoodIn wsX9_servesAside (wsV RX9 123 RX9 yX9_serves wsX9_serves) := goodIn_app (goodIn_of _ (by decide +kernel)) ggX9_servesAside_X9_serves
set_option maxRecDepth 20000 in
theorem ggX9_servesAside_X9_takeBack : GoodIn wsX9_servesAside wsX9_takeBack := goodIn_r _ [98, 7, 6, 99, 100, 101, 102, 103, 104, 105, 106, 107, 108, 109, 110, 111] (by decide +kernel) (by decide +kernel)
set_option maxRecDepth 20000 in
theorem gX9_servesAside_X9_takeBack : GoodIn wsX9_servesAside (wsV RX9 126 RX9 yX9_takeBack wsX9_takeBack) := goodIn_app (goodIn_of _ (by decide +kernel)) ggX9_servesAside_X9_takeBack
theorem dX9_servesAside_0 : decode cX9_servesAside 0 = .ok (.aload_n 0, 1) := by decide +kernel
theorem dX9_servesAside_1 : decode cX9_servesAside 1 = .ok (.invokevirtual 77, 3) := by decide +kernel
theorem dX9_servesAside_4 : decode cX9_servesAside 4 = .ok (.aload_n 0, 1) := by decide +kernel
theorem dX9_servesAside_5 : decode cX9_servesAside 5 = .ok (.iload_n 1, 1) := by decide +kernel
theorem dX9_servesAside_6 : decode cX9_servesAside 6 = .ok (.invokevirtual 123, 3) := by decide +kernel
theorem dX9_servesAside_9 : decode cX9_servesAside 9 = .ok (.istore_n 2, 1) := by decide +kernel
theorem dX9_servesAside_10 : decode cX9_servesAside 10 = .ok (.aload_n 0, 1) := by decide +kernel
theorem dX9_servesAside_11 : decode cX9_servesAside 11 = .ok (.invokevirtual 126, 3) := by decide +kernel
theorem dX9_servesAside_14 : decode cX9_servesAside 14 = .ok (.iload_n 2, 1) := by decide +kernel
theorem dX9_servesAside_15 : decode cX9_servesAside 15 = .ok (.ireturn, 1) := by decide +kernel
set_option maxRecDepth 20000 in
theorem ggX9_cheapest_X9_hasWindow : GoodIn wsX9_cheapest wsX9_hasWindow := goodIn_r _ [6, 1, 107, 108, 109, 110, 111, 112, 113, 114, 115, 116, 117, 118, 119] (by decide +kernel) (by decide +kernel)
set_option maxRecDepth 20000 in
theorem gX9_cheapest_X9_hasWindow : GoodIn wsX9_cheapest (wsV RX9 129 RX9 yX9_hasWindow wsX9_hasWindow) := goodIn_app (goodIn_of _ (by decide +kernel)) ggX9_cheapest_X9_hasWindow
set_option maxRecDepth 20000 in
theorem ggX9_cheapest_X9_canBe : GoodIn wsX9_cheapest wsX9_canBe := goodIn_r _ [10, 11, 12, 13, 5, 14, 1, 15, 16, 17, 18, 19, 20, 21, 22, 107, 108, 109, 110, 111, 112, 113, 114, 115, 116, 117, 118, 119] (by decide +kernel) (by decide +kernel)
set_option maxRecDepth 20000 in
theorem gX9_cheapest_X9_canBe : GoodIn wsX9_cheapest (wsV RX9 90 RX9 yX9_canBe wsX9_canBe) := goodIn_app (goodIn_of _ (by decide +kernel)) ggX9_cheapest_X9_canBe
set_option maxRecDepth 20000 in
theorem ggX9_cheapest_X9_servesAside : GoodIn wsX9_cheapest wsX9_servesAside := goodIn_r _ [26, 27, 28, 29, 5, 30, 31, 1, 32, 33, 34, 35, 36, 37, 38, 39, 40, 7, 8, 9, 10, 11, 12, 13, 14, 15, 16, 17, 18, 19, 20, 21, 22, 41, 42, 43, 44, 45, 46, 47, 48, 49, 50, 51, 52, 53, 54, 55, 56, 57, 58, 59, 60, 61, 62, 63, 64, 65, 66, 67, 68, 69, 70, 71, 72, 73, 74, 75, 76, 77, 78, 79, 80, 81, 82, 83, 84, 85, 86, 87, 88, 89, 90, 91, 92, 93, 94, 95, 96, 97, 98, 99, 100, 101, 102, 103, 104, 105, 106, 107, 108, 109, 110, 111, 112, 113, 114, 115, 116, 117, 118, 119] (by decide +kernel) (by decide +kernel)
set_option maxRecDepth 20000 in
theorem gX9_cheapest_X9_servesAside : GoodIn wsX9_cheapest (wsV RX9 133 RX9 yX9_servesAside wsX9_servesAside) := goodIn_app (goodIn_of _ (by decide +kernel)) ggX9_cheapest_X9_servesAside
theorem dX9_cheapest_0 : decode cX9_cheapest 0 = .ok (.iconst (-1), 1) := by decide +kernel
theorem dX9_cheapest_1 : decode cX9_cheapest 1 = .ok (.istore_n 1, 1) := by decide +kernel
theorem dX9_cheapest_2 : decode cX9_cheapest 2 = .ok (.iconst 0, 1) := by decide +kernel
theorem dX9_cheapest_3 : decode cX9_cheapest 3 = .ok (.istore_n 2, 1) := by decide +kernel
theorem dX9_cheapest_4 : decode cX9_cheapest 4 = .ok (.iconst 0, 1) := by decide +kernel
theorem dX9_cheapest_5 : decode cX9_cheapest 5 = .ok (.istore_n 3, 1) := by decide +kernel
theorem dX9_cheapest_6 : decode cX9_cheapest 6 = .ok (.iload_n 3, 1) := by decide +kernel
theorem dX9_cheapest_7 : decode cX9_cheapest 7 = .ok (.aload_n 0, 1) := by decide +kernel
theorem dX9_cheapest_8 : decode cX9_cheapest 8 = .ok (.getfield 7, 3) := by decide +kernel
theorem dX9_cheapest_11 : decode cX9_cheapest 11 = .ok (.bipush 8, 2) := by decide +kernel
theorem dX9_cheapest_13 : decode cX9_cheapest 13 = .ok (.iaload, 1) := by decide +kernel
theorem dX9_cheapest_14 : decode cX9_cheapest 14 = .ok (.if_icmp .ge 82, 3) := by decide +kernel
theorem dX9_cheapest_17 : decode cX9_cheapest 17 = .ok (.aload_n 0, 1) := by decide +kernel
theorem dX9_cheapest_18 : decode cX9_cheapest 18 = .ok (.invokevirtual 129, 3) := by decide +kernel
theorem dX9_cheapest_21 : decode cX9_cheapest 21 = .ok (.ifCond .ne 75, 3) := by decide +kernel
theorem dX9_cheapest_24 : decode cX9_cheapest 24 = .ok (.aload_n 0, 1) := by decide +kernel
theorem dX9_cheapest_25 : decode cX9_cheapest 25 = .ok (.iload_n 3, 1) := by decide +kernel
theorem dX9_cheapest_26 : decode cX9_cheapest 26 = .ok (.invokevirtual 90, 3) := by decide +kernel
theorem dX9_cheapest_29 : decode cX9_cheapest 29 = .ok (.ifCond .eq 11, 3) := by decide +kernel
theorem dX9_cheapest_32 : decode cX9_cheapest 32 = .ok (.aload_n 0, 1) := by decide +kernel
theorem dX9_cheapest_33 : decode cX9_cheapest 33 = .ok (.iload_n 3, 1) := by decide +kernel
theorem dX9_cheapest_34 : decode cX9_cheapest 34 = .ok (.invokevirtual 133, 3) := by decide +kernel
theorem dX9_cheapest_37 : decode cX9_cheapest 37 = .ok (.goto 4, 3) := by decide +kernel
theorem dX9_cheapest_40 : decode cX9_cheapest 40 = .ok (.iconst (-1), 1) := by decide +kernel
theorem dX9_cheapest_41 : decode cX9_cheapest 41 = .ok (.istore 4, 2) := by decide +kernel
theorem dX9_cheapest_43 : decode cX9_cheapest 43 = .ok (.iload 4, 2) := by decide +kernel
theorem dX9_cheapest_45 : decode cX9_cheapest 45 = .ok (.iconst (-1), 1) := by decide +kernel
theorem dX9_cheapest_46 : decode cX9_cheapest 46 = .ok (.if_icmp .eq 18, 3) := by decide +kernel
theorem dX9_cheapest_49 : decode cX9_cheapest 49 = .ok (.iload_n 1, 1) := by decide +kernel
theorem dX9_cheapest_50 : decode cX9_cheapest 50 = .ok (.iconst (-1), 1) := by decide +kernel
theorem dX9_cheapest_51 : decode cX9_cheapest 51 = .ok (.if_icmp .eq 9, 3) := by decide +kernel
theorem dX9_cheapest_54 : decode cX9_cheapest 54 = .ok (.iload 4, 2) := by decide +kernel
theorem dX9_cheapest_56 : decode cX9_cheapest 56 = .ok (.iload_n 2, 1) := by decide +kernel
theorem dX9_cheapest_57 : decode cX9_cheapest 57 = .ok (.if_icmp .ge 7, 3) := by decide +kernel
theorem dX9_cheapest_60 : decode cX9_cheapest 60 = .ok (.iconst 1, 1) := by decide +kernel
theorem dX9_cheapest_61 : decode cX9_cheapest 61 = .ok (.goto 4, 3) := by decide +kernel
theorem dX9_cheapest_64 : decode cX9_cheapest 64 = .ok (.iconst 0, 1) := by decide +kernel
theorem dX9_cheapest_65 : decode cX9_cheapest 65 = .ok (.istore 5, 2) := by decide +kernel
theorem dX9_cheapest_67 : decode cX9_cheapest 67 = .ok (.iload 5, 2) := by decide +kernel
theorem dX9_cheapest_69 : decode cX9_cheapest 69 = .ok (.ifCond .eq 7, 3) := by decide +kernel
theorem dX9_cheapest_72 : decode cX9_cheapest 72 = .ok (.iload_n 3, 1) := by decide +kernel
theorem dX9_cheapest_73 : decode cX9_cheapest 73 = .ok (.goto 4, 3) := by decide +kernel
theorem dX9_cheapest_76 : decode cX9_cheapest 76 = .ok (.iload_n 1, 1) := by decide +kernel
theorem dX9_cheapest_77 : decode cX9_cheapest 77 = .ok (.istore_n 1, 1) := by decide +kernel
theorem dX9_cheapest_78 : decode cX9_cheapest 78 = .ok (.iload 5, 2) := by decide +kernel
theorem dX9_cheapest_80 : decode cX9_cheapest 80 = .ok (.ifCond .eq 8, 3) := by decide +kernel
theorem dX9_cheapest_83 : decode cX9_cheapest 83 = .ok (.iload 4, 2) := by decide +kernel
theorem dX9_cheapest_85 : decode cX9_cheapest 85 = .ok (.goto 4, 3) := by decide +kernel
theorem dX9_cheapest_88 : decode cX9_cheapest 88 = .ok (.iload_n 2, 1) := by decide +kernel
theorem dX9_cheapest_89 : decode cX9_cheapest 89 = .ok (.istore_n 2, 1) := by decide +kernel
theorem dX9_cheapest_90 : decode cX9_cheapest 90 = .ok (.iinc 3 1, 3) := by decide +kernel
theorem dX9_cheapest_93 : decode cX9_cheapest 93 = .ok (.goto (-87), 3) := by decide +kernel
theorem dX9_cheapest_96 : decode cX9_cheapest 96 = .ok (.iload_n 1, 1) := by decide +kernel
theorem dX9_cheapest_97 : decode cX9_cheapest 97 = .ok (.ireturn, 1) := by decide +kernel
set_option maxRecDepth 20000 in
theorem ggX9_addShelf_X9_in : GoodIn wsX9_addShelf wsX9_in := goodIn_r _ [6] (by decide +kernel) (by decide +kernel)
set_option maxRecDepth 20000 in
theorem gX9_addShelf_X9_in : GoodIn wsX9_addShelf (va_wsS RX9 39 yX9_in wsX9_in) := goodIn_app (goodIn_of _ (by decide +kernel)) ggX9_addShelf_X9_in
set_option maxRecDepth 20000 in
theorem ggX9_addShelf_X9_fails : GoodIn wsX9_addShelf wsX9_fails := goodIn_r _ [10, 1, 45, 46, 47, 48, 49, 50, 51, 52, 53, 54, 55, 56, 57] (by decide +kernel) (by decide +kernel)
set_option maxRecDepth 20000 in
theorem gX9_addShelf_X9_fails : GoodIn wsX9_addShelf (wsV RX9 136 RX9 yX9_fails wsX9_fails) := goodIn_app (goodIn_of _ (by decide +kernel)) ggX9_addShelf_X9_fails
set_option maxRecDepth 20000 in
theorem ggX9_addShelf_X9_hasWindow : GoodIn wsX9_addShelf wsX9_hasWindow := goodIn_r _ [14, 2, 45, 46, 47, 48, 49, 50, 51, 52, 53, 54, 55, 56, 57] (by decide +kernel) (by decide +kernel)
set_option maxRecDepth 20000 in
theorem gX9_addShelf_X9_hasWindow : GoodIn wsX9_addShelf (wsV RX9 129 RX9 yX9_hasWindow wsX9_hasWindow) := goodIn_app (goodIn_of _ (by decide +kernel)) ggX9_addShelf_X9_hasWindow
set_option maxRecDepth 20000 in
theorem ggX9_addShelf_X9_place : GoodIn wsX9_addShelf wsX9_place := goodIn_r _ [18, 19, 20, 21, 5, 22, 23, 24, 25, 26, 2, 27, 28, 29, 30, 3, 4, 6, 45, 46, 47, 48, 49, 50, 51, 52, 53, 54, 55, 56, 57] (by decide +kernel) (by decide +kernel)
set_option maxRecDepth 20000 in
theorem gX9_addShelf_X9_place : GoodIn wsX9_addShelf (wsV RX9 74 RX9 yX9_place wsX9_place) := goodIn_app (goodIn_of _ (by decide +kernel)) ggX9_addShelf_X9_place
set_option maxRecDepth 20000 in
theorem ggX9_addShelf_X9_records : GoodIn wsX9_addShelf wsX9_records := goodIn_r _ [34, 35, 36, 2, 45, 46, 47, 48, 49, 50, 51, 52, 53, 54, 55, 56, 57] (by decide +kernel) (by decide +kernel)
set_option maxRecDepth 20000 in
theorem gX9_addShelf_X9_records : GoodIn wsX9_addShelf (wsV RX9 139 RX9 yX9_records wsX9_records) := goodIn_app (goodIn_of _ (by decide +kernel)) ggX9_addShelf_X9_records
set_option maxRecDepth 20000 in
theorem ggX9_addShelf_X9_lay : GoodIn wsX9_addShelf wsX9_lay := goodIn_r _ [40, 2, 45, 46, 47, 48, 49, 50, 51, 52, 53, 54, 55, 56, 57] (by decide +kernel) (by decide +kernel)
set_option maxRecDepth 20000 in
theorem gX9_addShelf_X9_lay : GoodIn wsX9_addShelf (wsV RX9 56 RX9 yX9_lay wsX9_lay) := goodIn_app (goodIn_of _ (by decide +kernel)) ggX9_addShelf_X9_lay
set_option maxRecDepth 20000 in
theorem ggX9_addShelf_X9_puts : GoodIn wsX9_addShelf wsX9_puts := goodIn_r _ [44, 37, 38, 39, 5, 40, 2, 45, 46, 47, 48, 49, 50, 51, 52, 53, 54, 55, 56, 57] (by decide +kernel) (by decide +kernel)
set_option maxRecDepth 20000 in
theorem gX9_addShelf_X9_puts : GoodIn wsX9_addShelf (wsV RX9 71 RX9 yX9_puts wsX9_puts) := goodIn_app (goodIn_of _ (by decide +kernel)) ggX9_addShelf_X9_puts
theorem dX9_addShelf_0 : decode cX9_addShelf 0 = .ok (.aload_n 0, 1) := by decide +kernel
theorem dX9_addShelf_1 : decode cX9_addShelf 1 = .ok (.iconst 0, 1) := by decide +kernel
theorem dX9_addShelf_2 : decode cX9_addShelf 2 = .ok (.putfield 35, 3) := by decide +kernel
theorem dX9_addShelf_5 : decode cX9_addShelf 5 = .ok (.iload_n 1, 1) := by decide +kernel
theorem dX9_addShelf_6 : decode cX9_addShelf 6 = .ok (.iconst 1, 1) := by decide +kernel
theorem dX9_addShelf_7 : decode cX9_addShelf 7 = .ok (.iconst 4, 1) := by decide +kernel
theorem dX9_addShelf_8 : decode cX9_addShelf 8 = .ok (.invokestatic 39, 3) := by decide +kernel
theorem dX9_addShelf_11 : decode cX9_addShelf 11 = .ok (.ifCond .ne 9, 3) := by decide +kernel
theorem dX9_addShelf_14 : decode cX9_addShelf 14 = .ok (.aload_n 0, 1) := by decide +kernel
theorem dX9_addShelf_15 : decode cX9_addShelf 15 = .ok (.iconst 1, 1) := by decide +kernel
theorem dX9_addShelf_16 : decode cX9_addShelf 16 = .ok (.invokevirtual 136, 3) := by decide +kernel
theorem dX9_addShelf_19 : decode cX9_addShelf 19 = .ok (.ireturn, 1) := by decide +kernel
theorem dX9_addShelf_20 : decode cX9_addShelf 20 = .ok (.aload_n 0, 1) := by decide +kernel
theorem dX9_addShelf_21 : decode cX9_addShelf 21 = .ok (.getfield 7, 3) := by decide +kernel
theorem dX9_addShelf_24 : decode cX9_addShelf 24 = .ok (.iconst 0, 1) := by decide +kernel
theorem dX9_addShelf_25 : decode cX9_addShelf 25 = .ok (.iaload, 1) := by decide +kernel
theorem dX9_addShelf_26 : decode cX9_addShelf 26 = .ok (.bipush 12, 2) := by decide +kernel
theorem dX9_addShelf_28 : decode cX9_addShelf 28 = .ok (.if_icmp .eq 19, 3) := by decide +kernel
theorem dX9_addShelf_31 : decode cX9_addShelf 31 = .ok (.aload_n 0, 1) := by decide +kernel
theorem dX9_addShelf_32 : decode cX9_addShelf 32 = .ok (.invokevirtual 129, 3) := by decide +kernel
theorem dX9_addShelf_35 : decode cX9_addShelf 35 = .ok (.ifCond .ne 12, 3) := by decide +kernel
theorem dX9_addShelf_38 : decode cX9_addShelf 38 = .ok (.aload_n 0, 1) := by decide +kernel
theorem dX9_addShelf_39 : decode cX9_addShelf 39 = .ok (.iload_n 1, 1) := by decide +kernel
theorem dX9_addShelf_40 : decode cX9_addShelf 40 = .ok (.invokevirtual 74, 3) := by decide +kernel
theorem dX9_addShelf_43 : decode cX9_addShelf 43 = .ok (.iconst (-1), 1) := by decide +kernel
theorem dX9_addShelf_44 : decode cX9_addShelf 44 = .ok (.if_icmp .ne 9, 3) := by decide +kernel
theorem dX9_addShelf_47 : decode cX9_addShelf 47 = .ok (.aload_n 0, 1) := by decide +kernel
theorem dX9_addShelf_48 : decode cX9_addShelf 48 = .ok (.iconst 2, 1) := by decide +kernel
theorem dX9_addShelf_49 : decode cX9_addShelf 49 = .ok (.invokevirtual 136, 3) := by decide +kernel
theorem dX9_addShelf_52 : decode cX9_addShelf 52 = .ok (.ireturn, 1) := by decide +kernel
theorem dX9_addShelf_53 : decode cX9_addShelf 53 = .ok (.aload_n 0, 1) := by decide +kernel
theorem dX9_addShelf_54 : decode cX9_addShelf 54 = .ok (.invokevirtual 139, 3) := by decide +kernel
theorem dX9_addShelf_57 : decode cX9_addShelf 57 = .ok (.aload_n 0, 1) := by decide +kernel
theorem dX9_addShelf_58 : decode cX9_addShelf 58 = .ok (.iload_n 1, 1) := by decide +kernel
theorem dX9_addShelf_59 : decode cX9_addShelf 59 = .ok (.invokevirtual 74, 3) := by decide +kernel
theorem dX9_addShelf_62 : decode cX9_addShelf 62 = .ok (.istore_n 2, 1) := by decide +kernel
theorem dX9_addShelf_63 : decode cX9_addShelf 63 = .ok (.aload_n 0, 1) := by decide +kernel
theorem dX9_addShelf_64 : decode cX9_addShelf 64 = .ok (.getfield 7, 3) := by decide +kernel
theorem dX9_addShelf_67 : decode cX9_addShelf 67 = .ok (.iconst 0, 1) := by decide +kernel
theorem dX9_addShelf_68 : decode cX9_addShelf 68 = .ok (.iaload, 1) := by decide +kernel
theorem dX9_addShelf_69 : decode cX9_addShelf 69 = .ok (.istore_n 3, 1) := by decide +kernel
theorem dX9_addShelf_70 : decode cX9_addShelf 70 = .ok (.aload_n 0, 1) := by decide +kernel
theorem dX9_addShelf_71 : decode cX9_addShelf 71 = .ok (.getfield 7, 3) := by decide +kernel
theorem dX9_addShelf_74 : decode cX9_addShelf 74 = .ok (.iconst 0, 1) := by decide +kernel
theorem dX9_addShelf_75 : decode cX9_addShelf 75 = .ok (.dup2, 1) := by decide +kernel
theorem dX9_addShelf_76 : decode cX9_addShelf 76 = .ok (.iaload, 1) := by decide +kernel
theorem dX9_addShelf_77 : decode cX9_addShelf 77 = .ok (.iconst 1, 1) := by decide +kernel
theorem dX9_addShelf_78 : decode cX9_addShelf 78 = .ok (.iadd, 1) := by decide +kernel
theorem dX9_addShelf_79 : decode cX9_addShelf 79 = .ok (.iastore, 1) := by decide +kernel
theorem dX9_addShelf_80 : decode cX9_addShelf 80 = .ok (.iconst 0, 1) := by decide +kernel
theorem dX9_addShelf_81 : decode cX9_addShelf 81 = .ok (.istore 4, 2) := by decide +kernel
theorem dX9_addShelf_83 : decode cX9_addShelf 83 = .ok (.iload 4, 2) := by decide +kernel
theorem dX9_addShelf_85 : decode cX9_addShelf 85 = .ok (.bipush 14, 2) := by decide +kernel
theorem dX9_addShelf_87 : decode cX9_addShelf 87 = .ok (.if_icmp .ge 17, 3) := by decide +kernel
theorem dX9_addShelf_90 : decode cX9_addShelf 90 = .ok (.aload_n 0, 1) := by decide +kernel
theorem dX9_addShelf_91 : decode cX9_addShelf 91 = .ok (.iload_n 3, 1) := by decide +kernel
theorem dX9_addShelf_92 : decode cX9_addShelf 92 = .ok (.iload 4, 2) := by decide +kernel
theorem dX9_addShelf_94 : decode cX9_addShelf 94 = .ok (.iconst 0, 1) := by decide +kernel
theorem dX9_addShelf_95 : decode cX9_addShelf 95 = .ok (.invokevirtual 56, 3) := by decide +kernel
theorem dX9_addShelf_98 : decode cX9_addShelf 98 = .ok (.iinc 4 1, 3) := by decide +kernel
theorem dX9_addShelf_101 : decode cX9_addShelf 101 = .ok (.goto (-18), 3) := by decide +kernel
theorem dX9_addShelf_104 : decode cX9_addShelf 104 = .ok (.aload_n 0, 1) := by decide +kernel
theorem dX9_addShelf_105 : decode cX9_addShelf 105 = .ok (.iload_n 3, 1) := by decide +kernel
theorem dX9_addShelf_106 : decode cX9_addShelf 106 = .ok (.iconst 0, 1) := by decide +kernel
theorem dX9_addShelf_107 : decode cX9_addShelf 107 = .ok (.iload_n 1, 1) := by decide +kernel
theorem dX9_addShelf_108 : decode cX9_addShelf 108 = .ok (.invokevirtual 56, 3) := by decide +kernel
theorem dX9_addShelf_111 : decode cX9_addShelf 111 = .ok (.aload_n 0, 1) := by decide +kernel
theorem dX9_addShelf_112 : decode cX9_addShelf 112 = .ok (.iload_n 3, 1) := by decide +kernel
theorem dX9_addShelf_113 : decode cX9_addShelf 113 = .ok (.iload_n 2, 1) := by decide +kernel
theorem dX9_addShelf_114 : decode cX9_addShelf 114 = .ok (.invokevirtual 71, 3) := by decide +kernel
theorem dX9_addShelf_117 : decode cX9_addShelf 117 = .ok (.iload_n 3, 1) := by decide +kernel
theorem dX9_addShelf_118 : decode cX9_addShelf 118 = .ok (.ireturn, 1) := by decide +kernel
set_option maxRecDepth 20000 in
theorem ggX9_isBare_X9_of : GoodIn wsX9_isBare wsX9_of := goodIn_r _ [5, 6, 7, 8, 9, 10, 11, 12, 13, 14, 15, 16, 17, 18, 19] (by decide +kernel) (by decide +kernel)
set_option maxRecDepth 20000 in
theorem gX9_isBare_X9_of : GoodIn wsX9_isBare (wsV RX9 46 RX9 yX9_of wsX9_of) := goodIn_app (goodIn_of _ (by decide +kernel)) ggX9_isBare_X9_of
theorem dX9_isBare_0 : decode cX9_isBare 0 = .ok (.iconst 1, 1) := by decide +kernel
theorem dX9_isBare_1 : decode cX9_isBare 1 = .ok (.istore_n 2, 1) := by decide +kernel
theorem dX9_isBare_2 : decode cX9_isBare 2 = .ok (.iconst 0, 1) := by decide +kernel
theorem dX9_isBare_3 : decode cX9_isBare 3 = .ok (.istore_n 3, 1) := by decide +kernel
theorem dX9_isBare_4 : decode cX9_isBare 4 = .ok (.iload_n 3, 1) := by decide +kernel
theorem dX9_isBare_5 : decode cX9_isBare 5 = .ok (.bipush 10, 2) := by decide +kernel
theorem dX9_isBare_7 : decode cX9_isBare 7 = .ok (.if_icmp .ge 30, 3) := by decide +kernel
theorem dX9_isBare_10 : decode cX9_isBare 10 = .ok (.iload_n 2, 1) := by decide +kernel
theorem dX9_isBare_11 : decode cX9_isBare 11 = .ok (.ifCond .eq 18, 3) := by decide +kernel
theorem dX9_isBare_14 : decode cX9_isBare 14 = .ok (.aload_n 0, 1) := by decide +kernel
theorem dX9_isBare_15 : decode cX9_isBare 15 = .ok (.iload_n 1, 1) := by decide +kernel
theorem dX9_isBare_16 : decode cX9_isBare 16 = .ok (.iconst 4, 1) := by decide +kernel
theorem dX9_isBare_17 : decode cX9_isBare 17 = .ok (.iload_n 3, 1) := by decide +kernel
theorem dX9_isBare_18 : decode cX9_isBare 18 = .ok (.iadd, 1) := by decide +kernel
theorem dX9_isBare_19 : decode cX9_isBare 19 = .ok (.invokevirtual 46, 3) := by decide +kernel
theorem dX9_isBare_22 : decode cX9_isBare 22 = .ok (.ifCond .ne 7, 3) := by decide +kernel
theorem dX9_isBare_25 : decode cX9_isBare 25 = .ok (.iconst 1, 1) := by decide +kernel
theorem dX9_isBare_26 : decode cX9_isBare 26 = .ok (.goto 4, 3) := by decide +kernel
theorem dX9_isBare_29 : decode cX9_isBare 29 = .ok (.iconst 0, 1) := by decide +kernel
theorem dX9_isBare_30 : decode cX9_isBare 30 = .ok (.istore_n 2, 1) := by decide +kernel
theorem dX9_isBare_31 : decode cX9_isBare 31 = .ok (.iinc 3 1, 3) := by decide +kernel
theorem dX9_isBare_34 : decode cX9_isBare 34 = .ok (.goto (-30), 3) := by decide +kernel
theorem dX9_isBare_37 : decode cX9_isBare 37 = .ok (.iload_n 2, 1) := by decide +kernel
theorem dX9_isBare_38 : decode cX9_isBare 38 = .ok (.ireturn, 1) := by decide +kernel
set_option maxRecDepth 20000 in
theorem ggX9_scrap_X9_isShelf : GoodIn wsX9_scrap wsX9_isShelf := goodIn_r _ [7, 2, 8, 9, 6, 10, 29, 30, 31, 32, 33, 34, 35, 36, 37, 38, 39, 40, 41] (by decide +kernel) (by decide +kernel)
set_option maxRecDepth 20000 in
theorem gX9_scrap_X9_isShelf : GoodIn wsX9_scrap (wsV RX9 142 RX9 yX9_isShelf wsX9_isShelf) := goodIn_app (goodIn_of _ (by decide +kernel)) ggX9_scrap_X9_isShelf
set_option maxRecDepth 20000 in
theorem ggX9_scrap_X9_fails : GoodIn wsX9_scrap wsX9_fails := goodIn_r _ [14, 1, 29, 30, 31, 32, 33, 34, 35, 36, 37, 38, 39, 40, 41] (by decide +kernel) (by decide +kernel)
set_option maxRecDepth 20000 in
theorem gX9_scrap_X9_fails : GoodIn wsX9_scrap (wsV RX9 136 RX9 yX9_fails wsX9_fails) := goodIn_app (goodIn_of _ (by decide +kernel)) ggX9_scrap_X9_fails
set_option maxRecDepth 20000 in
theorem ggX9_scrap_X9_isBare : GoodIn wsX9_scrap wsX9_isBare := goodIn_r _ [18, 19, 20, 21, 6, 22, 2, 29, 30, 31, 32, 33, 34, 35, 36, 37, 38, 39, 40, 41] (by decide +kernel) (by decide +kernel)
set_option maxRecDepth 20000 in
theorem gX9_scrap_X9_isBare : GoodIn wsX9_scrap (wsV RX9 145 RX9 yX9_isBare wsX9_isBare) := goodIn_app (goodIn_of _ (by decide +kernel)) ggX9_scrap_X9_isBare
set_option maxRecDepth 20000 in
theorem ggX9_scrap_X9_records : GoodIn wsX9_scrap wsX9_records := goodIn_r _ [26, 27, 28, 2, 29, 30, 31, 32, 33, 34, 35, 36, 37, 38, 39, 40, 41] (by decide +kernel) (by decide +kernel)
set_option maxRecDepth 20000 in
theorem gX9_scrap_X9_records : GoodIn wsX9_scrap (wsV RX9 139 RX9 yX9_records wsX9_records) := goodIn_app (goodIn_of _ (by decide +kernel)) ggX9_scrap_X9_records
set_option maxRecDepth 20000 in
theorem ggX9_scrap_X9_of : GoodIn wsX9_scrap wsX9_of := goodIn_r _ [22, 2, 29, 30, 31, 32, 33, 34, 35, 36, 37, 38, 39, 40, 41] (by decide +kernel) (by decide +kernel)
set_option maxRecDepth 20000 in
theorem gX9_scrap_X9_of : GoodIn wsX9_scrap (wsV RX9 46 RX9 yX9_of wsX9_of) := goodIn_app (goodIn_of _ (by decide +kernel)) ggX9_scrap_X9_of
theorem dX9_scrap_0 : decode cX9_scrap 0 = .ok (.aload_n 0, 1) := by decide +kernel
theorem dX9_scrap_1 : decode cX9_scrap 1 = .ok (.iconst 0, 1) := by decide +kernel
theorem dX9_scrap_2 : decode cX9_scrap 2 = .ok (.putfield 35, 3) := by decide +kernel
theorem dX9_scrap_5 : decode cX9_scrap 5 = .ok (.aload_n 0, 1) := by decide +kernel
theorem dX9_scrap_6 : decode cX9_scrap 6 = .ok (.iload_n 1, 1) := by decide +kernel
theorem dX9_scrap_7 : decode cX9_scrap 7 = .ok (.invokevirtual 142, 3) := by decide +kernel
theorem dX9_scrap_10 : decode cX9_scrap 10 = .ok (.ifCond .ne 9, 3) := by decide +kernel
theorem dX9_scrap_13 : decode cX9_scrap 13 = .ok (.aload_n 0, 1) := by decide +kernel
theorem dX9_scrap_14 : decode cX9_scrap 14 = .ok (.iconst 1, 1) := by decide +kernel
theorem dX9_scrap_15 : decode cX9_scrap 15 = .ok (.invokevirtual 136, 3) := by decide +kernel
theorem dX9_scrap_18 : decode cX9_scrap 18 = .ok (.ireturn, 1) := by decide +kernel
theorem dX9_scrap_19 : decode cX9_scrap 19 = .ok (.aload_n 0, 1) := by decide +kernel
theorem dX9_scrap_20 : decode cX9_scrap 20 = .ok (.iload_n 1, 1) := by decide +kernel
theorem dX9_scrap_21 : decode cX9_scrap 21 = .ok (.invokevirtual 145, 3) := by decide +kernel
theorem dX9_scrap_24 : decode cX9_scrap 24 = .ok (.ifCond .eq 13, 3) := by decide +kernel
theorem dX9_scrap_27 : decode cX9_scrap 27 = .ok (.iload_n 1, 1) := by decide +kernel
theorem dX9_scrap_28 : decode cX9_scrap 28 = .ok (.aload_n 0, 1) := by decide +kernel
theorem dX9_scrap_29 : decode cX9_scrap 29 = .ok (.getfield 7, 3) := by decide +kernel
theorem dX9_scrap_32 : decode cX9_scrap 32 = .ok (.iconst 1, 1) := by decide +kernel
theorem dX9_scrap_33 : decode cX9_scrap 33 = .ok (.iaload, 1) := by decide +kernel
theorem dX9_scrap_34 : decode cX9_scrap 34 = .ok (.if_icmp .ne 9, 3) := by decide +kernel
theorem dX9_scrap_37 : decode cX9_scrap 37 = .ok (.aload_n 0, 1) := by decide +kernel
theorem dX9_scrap_38 : decode cX9_scrap 38 = .ok (.iconst 2, 1) := by decide +kernel
theorem dX9_scrap_39 : decode cX9_scrap 39 = .ok (.invokevirtual 136, 3) := by decide +kernel
theorem dX9_scrap_42 : decode cX9_scrap 42 = .ok (.ireturn, 1) := by decide +kernel
theorem dX9_scrap_43 : decode cX9_scrap 43 = .ok (.aload_n 0, 1) := by decide +kernel
theorem dX9_scrap_44 : decode cX9_scrap 44 = .ok (.invokevirtual 139, 3) := by decide +kernel
theorem dX9_scrap_47 : decode cX9_scrap 47 = .ok (.aload_n 0, 1) := by decide +kernel
theorem dX9_scrap_48 : decode cX9_scrap 48 = .ok (.iload_n 1, 1) := by decide +kernel
theorem dX9_scrap_49 : decode cX9_scrap 49 = .ok (.iconst 0, 1) := by decide +kernel
theorem dX9_scrap_50 : decode cX9_scrap 50 = .ok (.invokevirtual 46, 3) := by decide +kernel
theorem dX9_scrap_53 : decode cX9_scrap 53 = .ok (.istore_n 2, 1) := by decide +kernel
theorem dX9_scrap_54 : decode cX9_scrap 54 = .ok (.aload_n 0, 1) := by decide +kernel
theorem dX9_scrap_55 : decode cX9_scrap 55 = .ok (.getfield 7, 3) := by decide +kernel
theorem dX9_scrap_58 : decode cX9_scrap 58 = .ok (.iconst 0, 1) := by decide +kernel
theorem dX9_scrap_59 : decode cX9_scrap 59 = .ok (.dup2, 1) := by decide +kernel
theorem dX9_scrap_60 : decode cX9_scrap 60 = .ok (.iaload, 1) := by decide +kernel
theorem dX9_scrap_61 : decode cX9_scrap 61 = .ok (.iconst 1, 1) := by decide +kernel
theorem dX9_scrap_62 : decode cX9_scrap 62 = .ok (.isub, 1) := by decide +kernel
theorem dX9_scrap_63 : decode cX9_scrap 63 = .ok (.iastore, 1) := by decide +kernel
theorem dX9_scrap_64 : decode cX9_scrap 64 = .ok (.bipush 14, 2) := by decide +kernel
theorem dX9_scrap_66 : decode cX9_scrap 66 = .ok (.iload_n 1, 1) := by decide +kernel
theorem dX9_scrap_67 : decode cX9_scrap 67 = .ok (.imul, 1) := by decide +kernel
theorem dX9_scrap_68 : decode cX9_scrap 68 = .ok (.istore_n 3, 1) := by decide +kernel
theorem dX9_scrap_69 : decode cX9_scrap 69 = .ok (.iload_n 3, 1) := by decide +kernel
theorem dX9_scrap_70 : decode cX9_scrap 70 = .ok (.bipush 14, 2) := by decide +kernel
theorem dX9_scrap_72 : decode cX9_scrap 72 = .ok (.aload_n 0, 1) := by decide +kernel
theorem dX9_scrap_73 : decode cX9_scrap 73 = .ok (.getfield 7, 3) := by decide +kernel
theorem dX9_scrap_76 : decode cX9_scrap 76 = .ok (.iconst 0, 1) := by decide +kernel
theorem dX9_scrap_77 : decode cX9_scrap 77 = .ok (.iaload, 1) := by decide +kernel
theorem dX9_scrap_78 : decode cX9_scrap 78 = .ok (.imul, 1) := by decide +kernel
theorem dX9_scrap_79 : decode cX9_scrap 79 = .ok (.if_icmp .ge 30, 3) := by decide +kernel
theorem dX9_scrap_82 : decode cX9_scrap 82 = .ok (.aload_n 0, 1) := by decide +kernel
theorem dX9_scrap_83 : decode cX9_scrap 83 = .ok (.getfield 7, 3) := by decide +kernel
theorem dX9_scrap_86 : decode cX9_scrap 86 = .ok (.bipush 9, 2) := by decide +kernel
theorem dX9_scrap_88 : decode cX9_scrap 88 = .ok (.iload_n 3, 1) := by decide +kernel
theorem dX9_scrap_89 : decode cX9_scrap 89 = .ok (.iadd, 1) := by decide +kernel
theorem dX9_scrap_90 : decode cX9_scrap 90 = .ok (.aload_n 0, 1) := by decide +kernel
theorem dX9_scrap_91 : decode cX9_scrap 91 = .ok (.getfield 7, 3) := by decide +kernel
theorem dX9_scrap_94 : decode cX9_scrap 94 = .ok (.bipush 9, 2) := by decide +kernel
theorem dX9_scrap_96 : decode cX9_scrap 96 = .ok (.iload_n 3, 1) := by decide +kernel
theorem dX9_scrap_97 : decode cX9_scrap 97 = .ok (.iadd, 1) := by decide +kernel
theorem dX9_scrap_98 : decode cX9_scrap 98 = .ok (.bipush 14, 2) := by decide +kernel
theorem dX9_scrap_100 : decode cX9_scrap 100 = .ok (.iadd, 1) := by decide +kernel
theorem dX9_scrap_101 : decode cX9_scrap 101 = .ok (.iaload, 1) := by decide +kernel
theorem dX9_scrap_102 : decode cX9_scrap 102 = .ok (.iastore, 1) := by decide +kernel
theorem dX9_scrap_103 : decode cX9_scrap 103 = .ok (.iinc 3 1, 3) := by decide +kernel
theorem dX9_scrap_106 : decode cX9_scrap 106 = .ok (.goto (-37), 3) := by decide +kernel
theorem dX9_scrap_109 : decode cX9_scrap 109 = .ok (.aload_n 0, 1) := by decide +kernel
theorem dX9_scrap_110 : decode cX9_scrap 110 = .ok (.getfield 7, 3) := by decide +kernel
theorem dX9_scrap_113 : decode cX9_scrap 113 = .ok (.iconst 1, 1) := by decide +kernel
theorem dX9_scrap_114 : decode cX9_scrap 114 = .ok (.dup2, 1) := by decide +kernel
theorem dX9_scrap_115 : decode cX9_scrap 115 = .ok (.iaload, 1) := by decide +kernel
theorem dX9_scrap_116 : decode cX9_scrap 116 = .ok (.aload_n 0, 1) := by decide +kernel
theorem dX9_scrap_117 : decode cX9_scrap 117 = .ok (.getfield 7, 3) := by decide +kernel
theorem dX9_scrap_120 : decode cX9_scrap 120 = .ok (.iconst 1, 1) := by decide +kernel
theorem dX9_scrap_121 : decode cX9_scrap 121 = .ok (.iaload, 1) := by decide +kernel
theorem dX9_scrap_122 : decode cX9_scrap 122 = .ok (.iload_n 1, 1) := by decide +kernel
theorem dX9_scrap_123 : decode cX9_scrap 123 = .ok (.if_icmp .le 7, 3) := by decide +kernel
theorem dX9_scrap_126 : decode cX9_scrap 126 = .ok (.iconst 1, 1) := by decide +kernel
theorem dX9_scrap_127 : decode cX9_scrap 127 = .ok (.goto 4, 3) := by decide +kernel
theorem dX9_scrap_130 : decode cX9_scrap 130 = .ok (.iconst 0, 1) := by decide +kernel
theorem dX9_scrap_131 : decode cX9_scrap 131 = .ok (.isub, 1) := by decide +kernel
theorem dX9_scrap_132 : decode cX9_scrap 132 = .ok (.iastore, 1) := by decide +kernel
theorem dX9_scrap_133 : decode cX9_scrap 133 = .ok (.iload_n 2, 1) := by decide +kernel
theorem dX9_scrap_134 : decode cX9_scrap 134 = .ok (.ireturn, 1) := by decide +kernel
set_option maxRecDepth 20000 in
theorem ggX9_fetch_X9_isShelf : GoodIn wsX9_fetch wsX9_isShelf := goodIn_r _ [6, 7, 8, 9, 5, 10, 49, 50, 51, 52, 53, 54, 55, 56, 57, 58, 59, 60, 61] (by decide +kernel) (by decide +kernel)
set_option maxRecDepth 20000 in
theorem gX9_fetch_X9_isShelf : GoodIn wsX9_fetch (wsV RX9 142 RX9 yX9_isShelf wsX9_isShelf) := goodIn_app (goodIn_of _ (by decide +kernel)) ggX9_fetch_X9_isShelf
set_option maxRecDepth 20000 in
theorem ggX9_fetch_X9_fails : GoodIn wsX9_fetch wsX9_fails := goodIn_r _ [14, 1, 49, 50, 51, 52, 53, 54, 55, 56, 57, 58, 59, 60, 61] (by decide +kernel) (by decide +kernel)
set_option maxRecDepth 20000 in
theorem gX9_fetch_X9_fails : GoodIn wsX9_fetch (wsV RX9 136 RX9 yX9_fails wsX9_fails) := goodIn_app (goodIn_of _ (by decide +kernel)) ggX9_fetch_X9_fails
set_option maxRecDepth 20000 in
theorem ggX9_fetch_X9_hasWindow : GoodIn wsX9_fetch wsX9_hasWindow := goodIn_r _ [18, 7, 49, 50, 51, 52, 53, 54, 55, 56, 57, 58, 59, 60, 61] (by decide +kernel) (by decide +kernel)
set_option maxRecDepth 20000 in
theorem gX9_fetch_X9_hasWindow : GoodIn wsX9_fetch (wsV RX9 129 RX9 yX9_hasWindow wsX9_hasWindow) := goodIn_app (goodIn_of _ (by decide +kernel)) ggX9_fetch_X9_hasWindow
set_option maxRecDepth 20000 in
theorem ggX9_fetch_X9_records : GoodIn wsX9_fetch wsX9_records := goodIn_r _ [22, 23, 24, 7, 49, 50, 51, 52, 53, 54, 55, 56, 57, 58, 59, 60, 61] (by decide +kernel) (by decide +kernel)
set_option maxRecDepth 20000 in
theorem gX9_fetch_X9_records : GoodIn wsX9_fetch (wsV RX9 139 RX9 yX9_records wsX9_records) := goodIn_app (goodIn_of _ (by decide +kernel)) ggX9_fetch_X9_records
set_option maxRecDepth 20000 in
theorem ggX9_fetch_X9_fetchesIt : GoodIn wsX9_fetch wsX9_fetchesIt := goodIn_r _ [28, 7, 29, 30, 31, 5, 32, 33, 34, 35, 36, 37, 38, 39, 40, 41, 42, 43, 44, 45, 46, 47, 48, 49, 50, 51, 52, 53, 54, 55, 56, 57, 58, 59, 60, 61] (by decide +kernel) (by decide +kernel)
set_option maxRecDepth 20000 in
theorem gX9_fetch_X9_fetchesIt : GoodIn wsX9_fetch (wsV RX9 103 RX9 yX9_fetchesIt wsX9_fetchesIt) := goodIn_app (goodIn_of _ (by decide +kernel)) ggX9_fetch_X9_fetchesIt
theorem dX9_fetch_0 : decode cX9_fetch 0 = .ok (.aload_n 0, 1) := by decide +kernel
theorem dX9_fetch_1 : decode cX9_fetch 1 = .ok (.iconst 0, 1) := by decide +kernel
theorem dX9_fetch_2 : decode cX9_fetch 2 = .ok (.putfield 35, 3) := by decide +kernel
theorem dX9_fetch_5 : decode cX9_fetch 5 = .ok (.aload_n 0, 1) := by decide +kernel
theorem dX9_fetch_6 : decode cX9_fetch 6 = .ok (.iload_n 1, 1) := by decide +kernel
theorem dX9_fetch_7 : decode cX9_fetch 7 = .ok (.invokevirtual 142, 3) := by decide +kernel
theorem dX9_fetch_10 : decode cX9_fetch 10 = .ok (.ifCond .ne 9, 3) := by decide +kernel
theorem dX9_fetch_13 : decode cX9_fetch 13 = .ok (.aload_n 0, 1) := by decide +kernel
theorem dX9_fetch_14 : decode cX9_fetch 14 = .ok (.iconst 1, 1) := by decide +kernel
theorem dX9_fetch_15 : decode cX9_fetch 15 = .ok (.invokevirtual 136, 3) := by decide +kernel
theorem dX9_fetch_18 : decode cX9_fetch 18 = .ok (.ireturn, 1) := by decide +kernel
theorem dX9_fetch_19 : decode cX9_fetch 19 = .ok (.aload_n 0, 1) := by decide +kernel
theorem dX9_fetch_20 : decode cX9_fetch 20 = .ok (.invokevirtual 129, 3) := by decide +kernel
theorem dX9_fetch_23 : decode cX9_fetch 23 = .ok (.ifCond .eq 9, 3) := by decide +kernel
theorem dX9_fetch_26 : decode cX9_fetch 26 = .ok (.aload_n 0, 1) := by decide +kernel
theorem dX9_fetch_27 : decode cX9_fetch 27 = .ok (.iconst 2, 1) := by decide +kernel
theorem dX9_fetch_28 : decode cX9_fetch 28 = .ok (.invokevirtual 136, 3) := by decide +kernel
theorem dX9_fetch_31 : decode cX9_fetch 31 = .ok (.ireturn, 1) := by decide +kernel
theorem dX9_fetch_32 : decode cX9_fetch 32 = .ok (.aload_n 0, 1) := by decide +kernel
theorem dX9_fetch_33 : decode cX9_fetch 33 = .ok (.invokevirtual 139, 3) := by decide +kernel
theorem dX9_fetch_36 : decode cX9_fetch 36 = .ok (.aload_n 0, 1) := by decide +kernel
theorem dX9_fetch_37 : decode cX9_fetch 37 = .ok (.iload_n 1, 1) := by decide +kernel
theorem dX9_fetch_38 : decode cX9_fetch 38 = .ok (.invokevirtual 103, 3) := by decide +kernel
theorem dX9_fetch_41 : decode cX9_fetch 41 = .ok (.ireturn, 1) := by decide +kernel
set_option maxRecDepth 20000 in
theorem ggX9_stow_X9_hasWindow : GoodIn wsX9_stow wsX9_hasWindow := goodIn_r _ [6, 7, 61, 62, 63, 64, 65, 66, 67, 68, 69, 70, 71, 72, 73] (by decide +kernel) (by decide +kernel)
set_option maxRecDepth 20000 in
theorem gX9_stow_X9_hasWindow : GoodIn wsX9_stow (wsV RX9 129 RX9 yX9_hasWindow wsX9_hasWindow) := goodIn_app (goodIn_of _ (by decide +kernel)) ggX9_stow_X9_hasWindow
set_option maxRecDepth 20000 in
theorem ggX9_stow_X9_fails : GoodIn wsX9_stow wsX9_fails := goodIn_r _ [11, 1, 61, 62, 63, 64, 65, 66, 67, 68, 69, 70, 71, 72, 73] (by decide +kernel) (by decide +kernel)
set_option maxRecDepth 20000 in
theorem gX9_stow_X9_fails : GoodIn wsX9_stow (wsV RX9 136 RX9 yX9_fails wsX9_fails) := goodIn_app (goodIn_of _ (by decide +kernel)) ggX9_stow_X9_fails
set_option maxRecDepth 20000 in
theorem ggX9_stow_X9_records : GoodIn wsX9_stow wsX9_records := goodIn_r _ [15, 16, 17, 7, 61, 62, 63, 64, 65, 66, 67, 68, 69, 70, 71, 72, 73] (by decide +kernel) (by decide +kernel)
set_option maxRecDepth 20000 in
theorem gX9_stow_X9_records : GoodIn wsX9_stow (wsV RX9 139 RX9 yX9_records wsX9_records) := goodIn_app (goodIn_of _ (by decide +kernel)) ggX9_stow_X9_records
set_option maxRecDepth 20000 in
theorem ggX9_stow_X9_stowPlace : GoodIn wsX9_stow wsX9_stowPlace := goodIn_r _ [21, 7, 22, 23, 24, 5, 25, 26, 27, 28, 29, 30, 31, 32, 33, 34, 35, 36, 37, 38, 39, 40, 61, 62, 63, 64, 65, 66, 67, 68, 69, 70, 71, 72, 73] (by decide +kernel) (by decide +kernel)
set_option maxRecDepth 20000 in
theorem gX9_stow_X9_stowPlace : GoodIn wsX9_stow (wsV RX9 109 RX9 yX9_stowPlace wsX9_stowPlace) := goodIn_app (goodIn_of _ (by decide +kernel)) ggX9_stow_X9_stowPlace
set_option maxRecDepth 20000 in
theorem ggX9_stow_X9_stows : GoodIn wsX9_stow wsX9_stows := goodIn_r _ [44, 7, 45, 46, 47, 5, 48, 49, 50, 51, 52, 22, 23, 24, 25, 53, 54, 55, 56, 57, 58, 59, 60, 61, 62, 63, 64, 65, 66, 67, 68, 69, 70, 71, 72, 73] (by decide +kernel) (by decide +kernel)
set_option maxRecDepth 20000 in
theorem gX9_stow_X9_stows : GoodIn wsX9_stow (wsV RX9 113 RX9 yX9_stows wsX9_stows) := goodIn_app (goodIn_of _ (by decide +kernel)) ggX9_stow_X9_stows
theorem dX9_stow_0 : decode cX9_stow 0 = .ok (.aload_n 0, 1) := by decide +kernel
theorem dX9_stow_1 : decode cX9_stow 1 = .ok (.iconst 0, 1) := by decide +kernel
theorem dX9_stow_2 : decode cX9_stow 2 = .ok (.putfield 35, 3) := by decide +kernel
theorem dX9_stow_5 : decode cX9_stow 5 = .ok (.aload_n 0, 1) := by decide +kernel
theorem dX9_stow_6 : decode cX9_stow 6 = .ok (.invokevirtual 129, 3) := by decide +kernel
theorem dX9_stow_9 : decode cX9_stow 9 = .ok (.ifCond .ne 9, 3) := by decide +kernel
theorem dX9_stow_12 : decode cX9_stow 12 = .ok (.aload_n 0, 1) := by decide +kernel
theorem dX9_stow_13 : decode cX9_stow 13 = .ok (.iconst 1, 1) := by decide +kernel
theorem dX9_stow_14 : decode cX9_stow 14 = .ok (.invokevirtual 136, 3) := by decide +kernel
theorem dX9_stow_17 : decode cX9_stow 17 = .ok (.ireturn, 1) := by decide +kernel
theorem dX9_stow_18 : decode cX9_stow 18 = .ok (.aload_n 0, 1) := by decide +kernel
theorem dX9_stow_19 : decode cX9_stow 19 = .ok (.invokevirtual 139, 3) := by decide +kernel
theorem dX9_stow_22 : decode cX9_stow 22 = .ok (.aload_n 0, 1) := by decide +kernel
theorem dX9_stow_23 : decode cX9_stow 23 = .ok (.aload_n 0, 1) := by decide +kernel
theorem dX9_stow_24 : decode cX9_stow 24 = .ok (.invokevirtual 109, 3) := by decide +kernel
theorem dX9_stow_27 : decode cX9_stow 27 = .ok (.invokevirtual 113, 3) := by decide +kernel
theorem dX9_stow_30 : decode cX9_stow 30 = .ok (.ireturn, 1) := by decide +kernel
set_option maxRecDepth 20000 in
theorem ggX9_stowAt_X9_isSpot : GoodIn wsX9_stowAt wsX9_isSpot := goodIn_r _ [6, 7, 8, 5, 9] (by decide +kernel) (by decide +kernel)
set_option maxRecDepth 20000 in
theorem gX9_stowAt_X9_isSpot : GoodIn wsX9_stowAt (va_wsS RX9 148 yX9_isSpot wsX9_isSpot) := goodIn_app (goodIn_of _ (by decide +kernel)) ggX9_stowAt_X9_isSpot
set_option maxRecDepth 20000 in
theorem ggX9_stowAt_X9_fails : GoodIn wsX9_stowAt wsX9_fails := goodIn_r _ [13, 1, 56, 57, 58, 59, 60, 61, 62, 63, 64, 65, 66, 67, 68] (by decide +kernel) (by decide +kernel)
set_option maxRecDepth 20000 in
theorem gX9_stowAt_X9_fails : GoodIn wsX9_stowAt (wsV RX9 136 RX9 yX9_fails wsX9_fails) := goodIn_app (goodIn_of _ (by decide +kernel)) ggX9_stowAt_X9_fails
set_option maxRecDepth 20000 in
theorem ggX9_stowAt_X9_hasWindow : GoodIn wsX9_stowAt wsX9_hasWindow := goodIn_r _ [17, 2, 56, 57, 58, 59, 60, 61, 62, 63, 64, 65, 66, 67, 68] (by decide +kernel) (by decide +kernel)
set_option maxRecDepth 20000 in
theorem gX9_stowAt_X9_hasWindow : GoodIn wsX9_stowAt (wsV RX9 129 RX9 yX9_hasWindow wsX9_hasWindow) := goodIn_app (goodIn_of _ (by decide +kernel)) ggX9_stowAt_X9_hasWindow
set_option maxRecDepth 20000 in
theorem ggX9_stowAt_X9_of : GoodIn wsX9_stowAt wsX9_of := goodIn_r _ [21, 2, 56, 57, 58, 59, 60, 61, 62, 63, 64, 65, 66, 67, 68] (by decide +kernel) (by decide +kernel)
set_option maxRecDepth 20000 in
theorem gX9_stowAt_X9_of : GoodIn wsX9_stowAt (wsV RX9 46 RX9 yX9_of wsX9_of) := goodIn_app (goodIn_of _ (by decide +kernel)) ggX9_stowAt_X9_of
set_option maxRecDepth 20000 in
theorem ggX9_stowAt_X9_fits : GoodIn wsX9_stowAt wsX9_fits := goodIn_r _ [25, 26, 27, 28, 5, 29, 2, 18, 19, 20, 21, 7, 8, 9, 56, 57, 58, 59, 60, 61, 62, 63, 64, 65, 66, 67, 68] (by decide +kernel) (by decide +kernel)
set_option maxRecDepth 20000 in
theorem gX9_stowAt_X9_fits : GoodIn wsX9_stowAt (wsV RX9 53 RX9 yX9_fits wsX9_fits) := goodIn_app (goodIn_of _ (by decide +kernel)) ggX9_stowAt_X9_fits
set_option maxRecDepth 20000 in
theorem ggX9_stowAt_X9_records : GoodIn wsX9_stowAt wsX9_records := goodIn_r _ [33, 34, 35, 2, 56, 57, 58, 59, 60, 61, 62, 63, 64, 65, 66, 67, 68] (by decide +kernel) (by decide +kernel)
set_option maxRecDepth 20000 in
theorem gX9_stowAt_X9_records : GoodIn wsX9_stowAt (wsV RX9 139 RX9 yX9_records wsX9_records) := goodIn_app (goodIn_of _ (by decide +kernel)) ggX9_stowAt_X9_records
set_option maxRecDepth 20000 in
theorem ggX9_stowAt_X9_stows : GoodIn wsX9_stowAt wsX9_stows := goodIn_r _ [39, 2, 40, 41, 42, 5, 43, 44, 45, 46, 47, 18, 19, 20, 21, 48, 49, 50, 51, 52, 53, 54, 55, 56, 57, 58, 59, 60, 61, 62, 63, 64, 65, 66, 67, 68] (by decide +kernel) (by decide +kernel)
set_option maxRecDepth 20000 in
theorem gX9_stowAt_X9_stows : GoodIn wsX9_stowAt (wsV RX9 113 RX9 yX9_stows wsX9_stows) := goodIn_app (goodIn_of _ (by decide +kernel)) ggX9_stowAt_X9_stows
theorem dX9_stowAt_0 : decode cX9_stowAt 0 = .ok (.aload_n 0, 1) := by decide +kernel
theorem dX9_stowAt_1 : decode cX9_stowAt 1 = .ok (.iconst 0, 1) := by decide +kernel
theorem dX9_stowAt_2 : decode cX9_stowAt 2 = .ok (.putfield 35, 3) := by decide +kernel
theorem dX9_stowAt_5 : decode cX9_stowAt 5 = .ok (.iload_n 1, 1) := by decide +kernel
theorem dX9_stowAt_6 : decode cX9_stowAt 6 = .ok (.iload_n 2, 1) := by decide +kernel
theorem dX9_stowAt_7 : decode cX9_stowAt 7 = .ok (.invokestatic 148, 3) := by decide +kernel
theorem dX9_stowAt_10 : decode cX9_stowAt 10 = .ok (.ifCond .ne 9, 3) := by decide +kernel
theorem dX9_stowAt_13 : decode cX9_stowAt 13 = .ok (.aload_n 0, 1) := by decide +kernel
theorem dX9_stowAt_14 : decode cX9_stowAt 14 = .ok (.iconst 1, 1) := by decide +kernel
theorem dX9_stowAt_15 : decode cX9_stowAt 15 = .ok (.invokevirtual 136, 3) := by decide +kernel
theorem dX9_stowAt_18 : decode cX9_stowAt 18 = .ok (.ireturn, 1) := by decide +kernel
theorem dX9_stowAt_19 : decode cX9_stowAt 19 = .ok (.aload_n 0, 1) := by decide +kernel
theorem dX9_stowAt_20 : decode cX9_stowAt 20 = .ok (.invokevirtual 129, 3) := by decide +kernel
theorem dX9_stowAt_23 : decode cX9_stowAt 23 = .ok (.ifCond .eq 23, 3) := by decide +kernel
theorem dX9_stowAt_26 : decode cX9_stowAt 26 = .ok (.aload_n 0, 1) := by decide +kernel
theorem dX9_stowAt_27 : decode cX9_stowAt 27 = .ok (.aload_n 0, 1) := by decide +kernel
theorem dX9_stowAt_28 : decode cX9_stowAt 28 = .ok (.aload_n 0, 1) := by decide +kernel
theorem dX9_stowAt_29 : decode cX9_stowAt 29 = .ok (.getfield 7, 3) := by decide +kernel
theorem dX9_stowAt_32 : decode cX9_stowAt 32 = .ok (.iconst 1, 1) := by decide +kernel
theorem dX9_stowAt_33 : decode cX9_stowAt 33 = .ok (.iaload, 1) := by decide +kernel
theorem dX9_stowAt_34 : decode cX9_stowAt 34 = .ok (.iconst 0, 1) := by decide +kernel
theorem dX9_stowAt_35 : decode cX9_stowAt 35 = .ok (.invokevirtual 46, 3) := by decide +kernel
theorem dX9_stowAt_38 : decode cX9_stowAt 38 = .ok (.iload_n 1, 1) := by decide +kernel
theorem dX9_stowAt_39 : decode cX9_stowAt 39 = .ok (.iload_n 2, 1) := by decide +kernel
theorem dX9_stowAt_40 : decode cX9_stowAt 40 = .ok (.invokevirtual 53, 3) := by decide +kernel
theorem dX9_stowAt_43 : decode cX9_stowAt 43 = .ok (.ifCond .ne 9, 3) := by decide +kernel
theorem dX9_stowAt_46 : decode cX9_stowAt 46 = .ok (.aload_n 0, 1) := by decide +kernel
theorem dX9_stowAt_47 : decode cX9_stowAt 47 = .ok (.iconst 2, 1) := by decide +kernel
theorem dX9_stowAt_48 : decode cX9_stowAt 48 = .ok (.invokevirtual 136, 3) := by decide +kernel
theorem dX9_stowAt_51 : decode cX9_stowAt 51 = .ok (.ireturn, 1) := by decide +kernel
theorem dX9_stowAt_52 : decode cX9_stowAt 52 = .ok (.aload_n 0, 1) := by decide +kernel
theorem dX9_stowAt_53 : decode cX9_stowAt 53 = .ok (.invokevirtual 139, 3) := by decide +kernel
theorem dX9_stowAt_56 : decode cX9_stowAt 56 = .ok (.aload_n 0, 1) := by decide +kernel
theorem dX9_stowAt_57 : decode cX9_stowAt 57 = .ok (.bipush 20, 2) := by decide +kernel
theorem dX9_stowAt_59 : decode cX9_stowAt 59 = .ok (.iload_n 1, 1) := by decide +kernel
theorem dX9_stowAt_60 : decode cX9_stowAt 60 = .ok (.imul, 1) := by decide +kernel
theorem dX9_stowAt_61 : decode cX9_stowAt 61 = .ok (.iload_n 2, 1) := by decide +kernel
theorem dX9_stowAt_62 : decode cX9_stowAt 62 = .ok (.iadd, 1) := by decide +kernel
theorem dX9_stowAt_63 : decode cX9_stowAt 63 = .ok (.invokevirtual 113, 3) := by decide +kernel
theorem dX9_stowAt_66 : decode cX9_stowAt 66 = .ok (.ireturn, 1) := by decide +kernel
set_option maxRecDepth 20000 in
theorem ggX9_pack_X9_hasWindow : GoodIn wsX9_pack wsX9_hasWindow := goodIn_r _ [6, 7, 66, 67, 68, 69, 70, 71, 72, 73, 74, 75, 76, 77, 78] (by decide +kernel) (by decide +kernel)
set_option maxRecDepth 20000 in
theorem gX9_pack_X9_hasWindow : GoodIn wsX9_pack (wsV RX9 129 RX9 yX9_hasWindow wsX9_hasWindow) := goodIn_app (goodIn_of _ (by decide +kernel)) ggX9_pack_X9_hasWindow
set_option maxRecDepth 20000 in
theorem ggX9_pack_X9_packsAside : GoodIn wsX9_pack wsX9_packsAside := goodIn_r _ [11, 12, 13, 14, 5, 15, 7, 16, 17, 18, 19, 20, 21, 22, 23, 24, 25, 26, 27, 28, 29, 30, 31, 32, 33, 34, 35, 36, 37, 38, 39, 40, 41, 42, 43, 44, 45, 46, 47, 48, 49, 50, 51, 52, 53, 54, 55, 66, 67, 68, 69, 70, 71, 72, 73, 74, 75, 76, 77, 78] (by decide +kernel) (by decide +kernel)
set_option maxRecDepth 20000 in
theorem gX9_pack_X9_packsAside : GoodIn wsX9_pack (wsV RX9 151 RX9 yX9_packsAside wsX9_packsAside) := goodIn_app (goodIn_of _ (by decide +kernel)) ggX9_pack_X9_packsAside
set_option maxRecDepth 20000 in
theorem ggX9_pack_X9_fails : GoodIn wsX9_pack wsX9_fails := goodIn_r _ [59, 1, 66, 67, 68, 69, 70, 71, 72, 73, 74, 75, 76, 77, 78] (by decide +kernel) (by decide +kernel)
set_option maxRecDepth 20000 in
theorem gX9_pack_X9_fails : GoodIn wsX9_pack (wsV RX9 136 RX9 yX9_fails wsX9_fails) := goodIn_app (goodIn_of _ (by decide +kernel)) ggX9_pack_X9_fails
set_option maxRecDepth 20000 in
theorem ggX9_pack_X9_records : GoodIn wsX9_pack wsX9_records := goodIn_r _ [63, 64, 65, 7, 66, 67, 68, 69, 70, 71, 72, 73, 74, 75, 76, 77, 78] (by decide +kernel) (by decide +kernel)
set_option maxRecDepth 20000 in
theorem gX9_pack_X9_records : GoodIn wsX9_pack (wsV RX9 139 RX9 yX9_records wsX9_records) := goodIn_app (goodIn_of _ (by decide +kernel)) ggX9_pack_X9_records
set_option maxRecDepth 20000 in
theorem ggX9_pack_X9_packs : GoodIn wsX9_pack wsX9_packs := goodIn_r _ [15, 7, 16, 17, 18, 19, 5, 20, 21, 22, 23, 24, 25, 26, 27, 28, 29, 30, 31, 32, 33, 34, 35, 36, 37, 38, 39, 40, 41, 42, 43, 44, 45, 46, 47, 48, 49, 50, 51, 66, 67, 68, 69, 70, 71, 72, 73, 74, 75, 76, 77, 78] (by decide +kernel) (by decide +kernel)
set_option maxRecDepth 20000 in
theorem gX9_pack_X9_packs : GoodIn wsX9_pack (wsV RX9 154 RX9 yX9_packs wsX9_packs) := goodIn_app (goodIn_of _ (by decide +kernel)) ggX9_pack_X9_packs
theorem dX9_pack_0 : decode cX9_pack 0 = .ok (.aload_n 0, 1) := by decide +kernel
theorem dX9_pack_1 : decode cX9_pack 1 = .ok (.iconst 0, 1) := by decide +kernel
theorem dX9_pack_2 : decode cX9_pack 2 = .ok (.putfield 35, 3) := by decide +kernel
theorem dX9_pack_5 : decode cX9_pack 5 = .ok (.aload_n 0, 1) := by decide +kernel
theorem dX9_pack_6 : decode cX9_pack 6 = .ok (.invokevirtual 129, 3) := by decide +kernel
theorem dX9_pack_9 : decode cX9_pack 9 = .ok (.ifCond .eq 7, 3) := by decide +kernel
theorem dX9_pack_12 : decode cX9_pack 12 = .ok (.iconst (-1), 1) := by decide +kernel
theorem dX9_pack_13 : decode cX9_pack 13 = .ok (.goto 7, 3) := by decide +kernel
theorem dX9_pack_16 : decode cX9_pack 16 = .ok (.aload_n 0, 1) := by decide +kernel
theorem dX9_pack_17 : decode cX9_pack 17 = .ok (.invokevirtual 151, 3) := by decide +kernel
theorem dX9_pack_20 : decode cX9_pack 20 = .ok (.istore_n 1, 1) := by decide +kernel
theorem dX9_pack_21 : decode cX9_pack 21 = .ok (.iload_n 1, 1) := by decide +kernel
theorem dX9_pack_22 : decode cX9_pack 22 = .ok (.iconst (-1), 1) := by decide +kernel
theorem dX9_pack_23 : decode cX9_pack 23 = .ok (.if_icmp .ne 9, 3) := by decide +kernel
theorem dX9_pack_26 : decode cX9_pack 26 = .ok (.aload_n 0, 1) := by decide +kernel
theorem dX9_pack_27 : decode cX9_pack 27 = .ok (.iconst 1, 1) := by decide +kernel
theorem dX9_pack_28 : decode cX9_pack 28 = .ok (.invokevirtual 136, 3) := by decide +kernel
theorem dX9_pack_31 : decode cX9_pack 31 = .ok (.ireturn, 1) := by decide +kernel
theorem dX9_pack_32 : decode cX9_pack 32 = .ok (.aload_n 0, 1) := by decide +kernel
theorem dX9_pack_33 : decode cX9_pack 33 = .ok (.invokevirtual 139, 3) := by decide +kernel
theorem dX9_pack_36 : decode cX9_pack 36 = .ok (.aload_n 0, 1) := by decide +kernel
theorem dX9_pack_37 : decode cX9_pack 37 = .ok (.invokevirtual 154, 3) := by decide +kernel
theorem dX9_pack_40 : decode cX9_pack 40 = .ok (.pop, 1) := by decide +kernel
theorem dX9_pack_41 : decode cX9_pack 41 = .ok (.iload_n 1, 1) := by decide +kernel
theorem dX9_pack_42 : decode cX9_pack 42 = .ok (.ireturn, 1) := by decide +kernel
set_option maxRecDepth 20000 in
theorem ggX9_packsAside_X9_packs : GoodIn wsX9_packsAside wsX9_packs := goodIn_r _ [5, 6, 7, 8, 9, 10, 4, 11, 12, 13, 14, 15, 16, 17, 18, 19, 20, 21, 22, 23, 24, 25, 26, 27, 28, 29, 30, 31, 32, 33, 34, 35, 36, 37, 38, 39, 40, 41, 42, 47, 48, 49, 50, 51, 52, 53, 54, 55, 56, 57, 58, 59] (by decide +kernel) (by decide +kernel)
set_option maxRecDepth 20000 in
theorem gX9_packsAside_X9_packs : GoodIn wsX9_packsAside (wsV RX9 154 RX9 yX9_packs wsX9_packs) := goodIn_app (goodIn_of _ (by decide +kernel)) ggX9_packsAside_X9_packs
set_option maxRecDepth 20000 in
theorem ggX9_packsAside_X9_takeBack : GoodIn wsX9_packsAside wsX9_takeBack := goodIn_r _ [46, 6, 7, 47, 48, 49, 50, 51, 52, 53, 54, 55, 56, 57, 58, 59] (by decide +kernel) (by decide +kernel)
set_option maxRecDepth 20000 in
theorem gX9_packsAside_X9_takeBack : GoodIn wsX9_packsAside (wsV RX9 126 RX9 yX9_takeBack wsX9_takeBack) := goodIn_app (goodIn_of _ (by decide +kernel)) ggX9_packsAside_X9_takeBack
theorem dX9_packsAside_0 : decode cX9_packsAside 0 = .ok (.aload_n 0, 1) := by decide +kernel
theorem dX9_packsAside_1 : decode cX9_packsAside 1 = .ok (.invokevirtual 154, 3) := by decide +kernel
theorem dX9_packsAside_4 : decode cX9_packsAside 4 = .ok (.istore_n 1, 1) := by decide +kernel
theorem dX9_packsAside_5 : decode cX9_packsAside 5 = .ok (.aload_n 0, 1) := by decide +kernel
theorem dX9_packsAside_6 : decode cX9_packsAside 6 = .ok (.invokevirtual 126, 3) := by decide +kernel
theorem dX9_packsAside_9 : decode cX9_packsAside 9 = .ok (.iload_n 1, 1) := by decide +kernel
theorem dX9_packsAside_10 : decode cX9_packsAside 10 = .ok (.ireturn, 1) := by decide +kernel
set_option maxRecDepth 20000 in
theorem ggX9_isMany_X9_in : GoodIn wsX9_isMany wsX9_in := goodIn_r _ [4] (by decide +kernel) (by decide +kernel)
set_option maxRecDepth 20000 in
theorem gX9_isMany_X9_in : GoodIn wsX9_isMany (va_wsS RX9 39 yX9_in wsX9_in) := goodIn_app (goodIn_of _ (by decide +kernel)) ggX9_isMany_X9_in
theorem dX9_isMany_0 : decode cX9_isMany 0 = .ok (.iload_n 0, 1) := by decide +kernel
theorem dX9_isMany_1 : decode cX9_isMany 1 = .ok (.iconst 1, 1) := by decide +kernel
theorem dX9_isMany_2 : decode cX9_isMany 2 = .ok (.bipush 20, 2) := by decide +kernel
theorem dX9_isMany_4 : decode cX9_isMany 4 = .ok (.invokestatic 39, 3) := by decide +kernel
theorem dX9_isMany_7 : decode cX9_isMany 7 = .ok (.ireturn, 1) := by decide +kernel
set_option maxRecDepth 20000 in
theorem ggX9_adds_X9_of : GoodIn wsX9_adds wsX9_of := goodIn_r _ [6, 1, 11, 12, 13, 14, 15, 16, 17, 18, 19, 20, 21, 22, 23] (by decide +kernel) (by decide +kernel)
set_option maxRecDepth 20000 in
theorem gX9_adds_X9_of : GoodIn wsX9_adds (wsV RX9 46 RX9 yX9_of wsX9_of) := goodIn_app (goodIn_of _ (by decide +kernel)) ggX9_adds_X9_of
set_option maxRecDepth 20000 in
theorem ggX9_adds_X9_lay : GoodIn wsX9_adds wsX9_lay := goodIn_r _ [10, 1, 11, 12, 13, 14, 15, 16, 17, 18, 19, 20, 21, 22, 23] (by decide +kernel) (by decide +kernel)
set_option maxRecDepth 20000 in
theorem gX9_adds_X9_lay : GoodIn wsX9_adds (wsV RX9 56 RX9 yX9_lay wsX9_lay) := goodIn_app (goodIn_of _ (by decide +kernel)) ggX9_adds_X9_lay
theorem dX9_adds_0 : decode cX9_adds 0 = .ok (.aload_n 0, 1) := by decide +kernel
